noncomputable def f_X11_fault (i_p0_latestFault : Int) : Option (Int) := (some i_p0_latestFault)
abbrev rm_X11_fault : Room := { frames := 0, cells := 0, slots := 0, locals := 0 }
theorem inX11_fault_X11 : ∀ w ∈ wsX110, w ∈ wsX11_fault := by first | exact fun w h => List.mem_cons_of_mem _ (List.mem_append_right _ h) | decide +kernel
theorem mwX11_fault_1 : Cond.fieldLink RX11 99 "LadleKings" "latestFault" "I" ∈ wsX11_fault := by first | exact List.mem_of_getElem? (i := 1) rfl | decide +kernel
set_option maxHeartbeats 8000000 in
set_option maxRecDepth 100000 in
theorem c_X11_fault (l : Launch) (D : va_G) (G : Nat → ClassId) (sz : Nat) (a_p0 : Nat) (a_p0_rules : Nat) (a_p0_state : Nat) (a_p0_tape : Nat) (a_p0_reader : Nat) (a_p0_kitchen : Nat) (a_p0_luck : Nat) (a_p0_plans : Nat) (a_p0_coups : Nat) (a_p0_past : Nat) (a_p0_fairDays : Nat) (a_p0_images : Nat) (a_p0_imageHeld : Nat) (a_p0_sheets : Nat) (i_p0_latestFault : Int) (i_p0_latestTear : Int) (r : Int) (hf : f_X11_fault i_p0_latestFault = some r) : Met l yX11_fault wsX11_fault rm_X11_fault (pcG D G [.ref a_p0] sz [(a_p0, .inr (11, [.ref a_p0_rules, .ref a_p0_state, .ref a_p0_tape, .ref a_p0_reader, .ref a_p0_kitchen, .ref a_p0_luck, .ref a_p0_plans, .ref a_p0_coups, .ref a_p0_past, .ref a_p0_fairDays, .ref a_p0_images, .ref a_p0_imageHeld, .ref a_p0_sheets, .int (Int32.ofInt i_p0_latestFault), .int (Int32.ofInt i_p0_latestTear)]))]) (qcI D G (Int32.ofInt r) [(a_p0, .inr (11, [.ref a_p0_rules, .ref a_p0_state, .ref a_p0_tape, .ref a_p0_reader, .ref a_p0_kitchen, .ref a_p0_luck, .ref a_p0_plans, .ref a_p0_coups, .ref a_p0_past, .ref a_p0_fairDays, .ref a_p0_images, .ref a_p0_imageHeld, .ref a_p0_sheets, .int (Int32.ofInt i_p0_latestFault), .int (Int32.ofInt i_p0_latestTear)]))] (va_A [(a_p0, .inr (11, [.ref a_p0_rules, .ref a_p0_state, .ref a_p0_tape, .ref a_p0_reader, .ref a_p0_kitchen, .ref a_p0_luck, .ref a_p0_plans, .ref a_p0_coups, .ref a_p0_past, .ref a_p0_fairDays, .ref a_p0_images, .ref a_p0_imageHeld, .ref a_p0_sheets, .int (Int32.ofInt i_p0_latestFault), .int (Int32.ofInt i_p0_latestTear)]))] sz)) 0 0 (va_A [(a_p0, .inr (11, [.ref a_p0_rules, .ref a_p0_state, .ref a_p0_tape, .ref a_p0_reader, .ref a_p0_kitchen, .ref a_p0_luck, .ref a_p0_plans, .ref a_p0_coups, .ref a_p0_past, .ref a_p0_fairDays, .ref a_p0_images, .ref a_p0_imageHeld, .ref a_p0_sheets, .int (Int32.ofInt i_p0_latestFault), .int (Int32.ofInt i_p0_latestTear)]))] sz) := by
  refine Met.ofW (cc := cX11_fault) (maxL := 1) (ret := (some .int)) (by decide) rfl ?_
  intro p e s m args below meth c s₁ B hml hv
  obtain ⟨rfl, hsz, hP, hK, hD0⟩ := hv
  have hx := B.exec
  have hb := B.bytes
  have hr := B.returns
  have hts := atoms_spec (ws := wsX11_fault) B.pre
  have hown : s.vm.findClass RX11 = some m.cls := findClass_of_methodNamed B.named
  have hlocks := B.notSynchronized
  subst hsz
  have hD := hD0.self (sz := s.heap.size)
  generalize hAe : va_A [(a_p0, .inr (11, [.ref a_p0_rules, .ref a_p0_state, .ref a_p0_tape, .ref a_p0_reader, .ref a_p0_kitchen, .ref a_p0_luck, .ref a_p0_plans, .ref a_p0_coups, .ref a_p0_past, .ref a_p0_fairDays, .ref a_p0_images, .ref a_p0_imageHeld, .ref a_p0_sheets, .int (Int32.ofInt i_p0_latestFault), .int (Int32.ofInt i_p0_latestTear)]))] s.heap.size = A at hD ⊢
  have hA : ∀ q : Nat, s.heap.size ≤ q → A q := fun q h => by rw [← hAe]; exact Or.inr h
  clear hAe hD0
  have hS : va_S A s.heap s.heap [] := va_S.rf
  have hl := lv_entry ([.ref a_p0]) (n := 1) (Nat.le_of_ble_eq_true rfl)
  rw [lg_entry_eq]
  generalize (lg_sl ([.ref a_p0]) ++ List.replicate (1 - (lg_sl ([.ref a_p0])).length) Slot.unset).toArray = ls at hl ⊢
  have hl : lv_has ls 1 [(0, .ref a_p0)] := hl
  refine W_nameQ (fun Q hQ => ?_)
  obtain ⟨H, hH⟩ : ∃ H, H = s.heap := ⟨_, rfl⟩
  replace hS : va_S A s.heap H [] := by rw [hH]; exact hS
  replace hP : va_P D vwCl [(a_p0, .inr (11, [.ref a_p0_rules, .ref a_p0_state, .ref a_p0_tape, .ref a_p0_reader, .ref a_p0_kitchen, .ref a_p0_luck, .ref a_p0_plans, .ref a_p0_coups, .ref a_p0_past, .ref a_p0_fairDays, .ref a_p0_images, .ref a_p0_imageHeld, .ref a_p0_sheets, .int (Int32.ofInt i_p0_latestFault), .int (Int32.ofInt i_p0_latestTear)]))] H := by rw [hH]; exact hP
  rw [← hH]
  clear hH
  unfold f_X11_fault at hf
  refine lv_aload_n hx hb dX11_fault_0 rfl (lv_at hl 0 rfl) ?_
  refine va_get (D := D) (ci := 11) (v := .int (Int32.ofInt i_p0_latestFault)) (C := RX11) (T := TX11) (N := 15) hx hb hts inX11_fault_X11 hown hK hP 0 rfl rfl 13 (by decide) (hts _ mwX11_fault_1) (fun _ h9 => h9) rfl dX11_fault_1 ?_
  obtain rfl := ou1 hf
  rw [hQ]
  exact W.iret hx hb hr (fun t ht hW => ⟨⟨_, (), rfl, rfl, by rw [ht]; exact hP, va_K.moved hW.alike hK, hD⟩, hS.F ht⟩) hS.2.2 dX11_fault_4

noncomputable def f_X11_rule (i_p0_rules_seats : Int) (i_p0_rules_stirs : Int) (i_p0_state_bone : Int) (i_p0_state_king : Int) (i_p0_state_days : Int) (x1 : Int) : Option (Int) := (ck (z_r32 x1) (if x1 = (0 : Int) then (some i_p0_rules_seats) else (if x1 = (1 : Int) then (some i_p0_rules_stirs) else (if x1 = (2 : Int) then (some i_p0_state_king) else (if x1 = (3 : Int) then (some i_p0_state_days) else (if x1 = (4 : Int) then (some i_p0_state_bone) else (some (-1 : Int))))))))
abbrev rm_X11_rule : Room := { frames := 0, cells := 0, slots := 0, locals := 0 }
theorem inX11_rule_X11 : ∀ w ∈ wsX110, w ∈ wsX11_rule := by first | exact fun w h => List.mem_cons_of_mem _ (List.mem_append_left _ (List.mem_append_left _ (List.mem_append_right _ h))) | decide +kernel
theorem mwX11_rule_1 : Cond.fieldLink RX11 10 "LadleKings" "rules" "LLadleKings$Rules;" ∈ wsX11_rule := by first | exact List.mem_of_getElem? (i := 1) rfl | decide +kernel
theorem inX11_rule_X6 : ∀ w ∈ wsX60, w ∈ wsX11_rule := by first | exact fun w h => List.mem_cons_of_mem _ (List.mem_append_left _ (List.mem_append_right _ h)) | decide +kernel
theorem mwX11_rule_3 : Cond.fieldLink RX11 130 "LadleKings$Rules" "seats" "I" ∈ wsX11_rule := by first | exact List.mem_of_getElem? (i := 2) rfl | decide +kernel
theorem mwX11_rule_4 : Cond.fieldLink RX11 133 "LadleKings$Rules" "stirs" "I" ∈ wsX11_rule := by first | exact List.mem_of_getElem? (i := 3) rfl | decide +kernel
theorem mwX11_rule_5 : Cond.fieldLink RX11 19 "LadleKings" "state" "LLadleKings$State;" ∈ wsX11_rule := by first | exact List.mem_of_getElem? (i := 4) rfl | decide +kernel
theorem inX11_rule_X8 : ∀ w ∈ wsX80, w ∈ wsX11_rule := by first | exact fun w h => List.mem_cons_of_mem _ (List.mem_append_right _ h) | decide +kernel
theorem mwX11_rule_7 : Cond.fieldLink RX11 136 "LadleKings$State" "king" "I" ∈ wsX11_rule := by first | exact List.mem_of_getElem? (i := 5) rfl | decide +kernel
theorem mwX11_rule_8 : Cond.fieldLink RX11 139 "LadleKings$State" "days" "I" ∈ wsX11_rule := by first | exact List.mem_of_getElem? (i := 6) rfl | decide +kernel
theorem mwX11_rule_9 : Cond.fieldLink RX11 142 "LadleKings$State" "bone" "I" ∈ wsX11_rule := by first | exact List.mem_of_getElem? (i := 7) rfl | decide +kernel
set_option maxHeartbeats 8000000 in
set_option maxRecDepth 100000 in
theorem c_X11_rule (l : Launch) (D : va_G) (G : Nat → ClassId) (sz : Nat) (a_p0 : Nat) (a_p0_rules : Nat) (a_p0_state : Nat) (a_p0_tape : Nat) (a_p0_reader : Nat) (a_p0_kitchen : Nat) (a_p0_luck : Nat) (a_p0_plans : Nat) (a_p0_coups : Nat) (a_p0_past : Nat) (a_p0_fairDays : Nat) (a_p0_images : Nat) (a_p0_imageHeld : Nat) (a_p0_sheets : Nat) (a_p0_rules_need : Nat) (a_p0_rules_kind : Nat) (a_p0_rules_first : Nat) (a_p0_rules_second : Nat) (a_p0_rules_after : Nat) (a_p0_state_pieces : Nat) (a_p0_state_friends : Nat) (a_p0_state_spoons : Nat) (a_p0_state_eaten : Nat) (a_p0_state_seen : Nat) (i_p0_latestFault : Int) (i_p0_latestTear : Int) (i_p0_rules_seats : Int) (i_p0_rules_stirs : Int) (i_p0_state_seenDays : Int) (i_p0_state_bone : Int) (i_p0_state_king : Int) (i_p0_state_days : Int) (x1 : Int) (r : Int) (hf : f_X11_rule i_p0_rules_seats i_p0_rules_stirs i_p0_state_bone i_p0_state_king i_p0_state_days x1 = some r) : Met l yX11_rule wsX11_rule rm_X11_rule (pcG D G [.ref a_p0, .int (Int32.ofInt x1)] sz [(a_p0, .inr (11, [.ref a_p0_rules, .ref a_p0_state, .ref a_p0_tape, .ref a_p0_reader, .ref a_p0_kitchen, .ref a_p0_luck, .ref a_p0_plans, .ref a_p0_coups, .ref a_p0_past, .ref a_p0_fairDays, .ref a_p0_images, .ref a_p0_imageHeld, .ref a_p0_sheets, .int (Int32.ofInt i_p0_latestFault), .int (Int32.ofInt i_p0_latestTear)])), (a_p0_rules, .inr (6, [.int (Int32.ofInt i_p0_rules_seats), .int (Int32.ofInt i_p0_rules_stirs), .ref a_p0_rules_need, .ref a_p0_rules_kind, .ref a_p0_rules_first, .ref a_p0_rules_second, .ref a_p0_rules_after])), (a_p0_state, .inr (8, [.ref a_p0_state_pieces, .ref a_p0_state_friends, .ref a_p0_state_spoons, .ref a_p0_state_eaten, .ref a_p0_state_seen, .int (Int32.ofInt i_p0_state_seenDays), .int (Int32.ofInt i_p0_state_bone), .int (Int32.ofInt i_p0_state_king), .int (Int32.ofInt i_p0_state_days)]))]) (qcI D G (Int32.ofInt r) [(a_p0, .inr (11, [.ref a_p0_rules, .ref a_p0_state, .ref a_p0_tape, .ref a_p0_reader, .ref a_p0_kitchen, .ref a_p0_luck, .ref a_p0_plans, .ref a_p0_coups, .ref a_p0_past, .ref a_p0_fairDays, .ref a_p0_images, .ref a_p0_imageHeld, .ref a_p0_sheets, .int (Int32.ofInt i_p0_latestFault), .int (Int32.ofInt i_p0_latestTear)])), (a_p0_rules, .inr (6, [.int (Int32.ofInt i_p0_rules_seats), .int (Int32.ofInt i_p0_rules_stirs), .ref a_p0_rules_need, .ref a_p0_rules_kind, .ref a_p0_rules_first, .ref a_p0_rules_second, .ref a_p0_rules_after])), (a_p0_state, .inr (8, [.ref a_p0_state_pieces, .ref a_p0_state_friends, .ref a_p0_state_spoons, .ref a_p0_state_eaten, .ref a_p0_state_seen, .int (Int32.ofInt i_p0_state_seenDays), .int (Int32.ofInt i_p0_state_bone), .int (Int32.ofInt i_p0_state_king), .int (Int32.ofInt i_p0_state_days)]))] (va_A [(a_p0, .inr (11, [.ref a_p0_rules, .ref a_p0_state, .ref a_p0_tape, .ref a_p0_reader, .ref a_p0_kitchen, .ref a_p0_luck, .ref a_p0_plans, .ref a_p0_coups, .ref a_p0_past, .ref a_p0_fairDays, .ref a_p0_images, .ref a_p0_imageHeld, .ref a_p0_sheets, .int (Int32.ofInt i_p0_latestFault), .int (Int32.ofInt i_p0_latestTear)])), (a_p0_rules, .inr (6, [.int (Int32.ofInt i_p0_rules_seats), .int (Int32.ofInt i_p0_rules_stirs), .ref a_p0_rules_need, .ref a_p0_rules_kind, .ref a_p0_rules_first, .ref a_p0_rules_second, .ref a_p0_rules_after])), (a_p0_state, .inr (8, [.ref a_p0_state_pieces, .ref a_p0_state_friends, .ref a_p0_state_spoons, .ref a_p0_state_eaten, .ref a_p0_state_seen, .int (Int32.ofInt i_p0_state_seenDays), .int (Int32.ofInt i_p0_state_bone), .int (Int32.ofInt i_p0_state_king), .int (Int32.ofInt i_p0_state_days)]))] sz)) 0 0 (va_A [(a_p0, .inr (11, [.ref a_p0_rules, .ref a_p0_state, .ref a_p0_tape, .ref a_p0_reader, .ref a_p0_kitchen, .ref a_p0_luck, .ref a_p0_plans, .ref a_p0_coups, .ref a_p0_past, .ref a_p0_fairDays, .ref a_p0_images, .ref a_p0_imageHeld, .ref a_p0_sheets, .int (Int32.ofInt i_p0_latestFault), .int (Int32.ofInt i_p0_latestTear)])), (a_p0_rules, .inr (6, [.int (Int32.ofInt i_p0_rules_seats), .int (Int32.ofInt i_p0_rules_stirs), .ref a_p0_rules_need, .ref a_p0_rules_kind, .ref a_p0_rules_first, .ref a_p0_rules_second, .ref a_p0_rules_after])), (a_p0_state, .inr (8, [.ref a_p0_state_pieces, .ref a_p0_state_friends, .ref a_p0_state_spoons, .ref a_p0_state_eaten, .ref a_p0_state_seen, .int (Int32.ofInt i_p0_state_seenDays), .int (Int32.ofInt i_p0_state_bone), .int (Int32.ofInt i_p0_state_king), .int (Int32.ofInt i_p0_state_days)]))] sz) := by
  refine Met.ofW (cc := cX11_rule) (maxL := 2) (ret := (some .int)) (by decide) rfl ?_
  intro p e s m args below meth c s₁ B hml hv
  obtain ⟨rfl, hsz, hP, hK, hD0⟩ := hv
  have hx := B.exec
  have hb := B.bytes
  have hr := B.returns
  have hts := atoms_spec (ws := wsX11_rule) B.pre
  have hown : s.vm.findClass RX11 = some m.cls := findClass_of_methodNamed B.named
  have hlocks := B.notSynchronized
  subst hsz
  have hD := hD0.self (sz := s.heap.size)
  generalize hAe : va_A [(a_p0, .inr (11, [.ref a_p0_rules, .ref a_p0_state, .ref a_p0_tape, .ref a_p0_reader, .ref a_p0_kitchen, .ref a_p0_luck, .ref a_p0_plans, .ref a_p0_coups, .ref a_p0_past, .ref a_p0_fairDays, .ref a_p0_images, .ref a_p0_imageHeld, .ref a_p0_sheets, .int (Int32.ofInt i_p0_latestFault), .int (Int32.ofInt i_p0_latestTear)])), (a_p0_rules, .inr (6, [.int (Int32.ofInt i_p0_rules_seats), .int (Int32.ofInt i_p0_rules_stirs), .ref a_p0_rules_need, .ref a_p0_rules_kind, .ref a_p0_rules_first, .ref a_p0_rules_second, .ref a_p0_rules_after])), (a_p0_state, .inr (8, [.ref a_p0_state_pieces, .ref a_p0_state_friends, .ref a_p0_state_spoons, .ref a_p0_state_eaten, .ref a_p0_state_seen, .int (Int32.ofInt i_p0_state_seenDays), .int (Int32.ofInt i_p0_state_bone), .int (Int32.ofInt i_p0_state_king), .int (Int32.ofInt i_p0_state_days)]))] s.heap.size = A at hD ⊢
  have hA : ∀ q : Nat, s.heap.size ≤ q → A q := fun q h => by rw [← hAe]; exact Or.inr h
  clear hAe hD0
  have hS : va_S A s.heap s.heap [] := va_S.rf
  have hl := lv_entry ([.ref a_p0, .int (Int32.ofInt x1)]) (n := 2) (Nat.le_of_ble_eq_true rfl)
  rw [lg_entry_eq]
  generalize (lg_sl ([.ref a_p0, .int (Int32.ofInt x1)]) ++ List.replicate (2 - (lg_sl ([.ref a_p0, .int (Int32.ofInt x1)])).length) Slot.unset).toArray = ls at hl ⊢
  have hl : lv_has ls 2 [(0, .ref a_p0), (1, .int (Int32.ofInt x1))] := hl
  refine W_nameQ (fun Q hQ => ?_)
  obtain ⟨H, hH⟩ : ∃ H, H = s.heap := ⟨_, rfl⟩
  replace hS : va_S A s.heap H [] := by rw [hH]; exact hS
  replace hP : va_P D vwCl [(a_p0, .inr (11, [.ref a_p0_rules, .ref a_p0_state, .ref a_p0_tape, .ref a_p0_reader, .ref a_p0_kitchen, .ref a_p0_luck, .ref a_p0_plans, .ref a_p0_coups, .ref a_p0_past, .ref a_p0_fairDays, .ref a_p0_images, .ref a_p0_imageHeld, .ref a_p0_sheets, .int (Int32.ofInt i_p0_latestFault), .int (Int32.ofInt i_p0_latestTear)])), (a_p0_rules, .inr (6, [.int (Int32.ofInt i_p0_rules_seats), .int (Int32.ofInt i_p0_rules_stirs), .ref a_p0_rules_need, .ref a_p0_rules_kind, .ref a_p0_rules_first, .ref a_p0_rules_second, .ref a_p0_rules_after])), (a_p0_state, .inr (8, [.ref a_p0_state_pieces, .ref a_p0_state_friends, .ref a_p0_state_spoons, .ref a_p0_state_eaten, .ref a_p0_state_seen, .int (Int32.ofInt i_p0_state_seenDays), .int (Int32.ofInt i_p0_state_bone), .int (Int32.ofInt i_p0_state_king), .int (Int32.ofInt i_p0_state_days)]))] H := by rw [hH]; exact hP
  rw [← hH]
  clear hH
  unfold f_X11_rule at hf
  refine lv_iload_n hx hb dX11_rule_0 rfl (lv_at hl 1 rfl) ?_
  have hr0 := ck_c hf
  replace hf := ck_r hf
  rcases Decidable.em (x1 = (0 : Int)) with hk2 | hk2
  ·
    replace hf := ite_t hk2 hf
    refine lv_tableIn (tgt := 36) hx hb dX11_rule_1 (by rw [hk2]; decide) (by rw [hk2]; decide) (by rw [hk2]; rfl) (by decide) ?_
    clear hk2
    refine lv_aload_n hx hb dX11_rule_36 rfl (lv_at hl 0 rfl) ?_
    refine va_get (D := D) (ci := 11) (v := .ref a_p0_rules) (C := RX11) (T := TX11) (N := 15) hx hb hts inX11_rule_X11 hown hK hP 0 rfl rfl 0 (by decide) (hts _ mwX11_rule_1) (fun _ h9 => h9) rfl dX11_rule_37 ?_
    refine va_get (D := D) (ci := 6) (v := .int (Int32.ofInt i_p0_rules_seats)) (C := RX6) (T := TX6) (N := 7) hx hb hts inX11_rule_X6 hown hK hP 1 rfl rfl 0 (by decide) (hts _ mwX11_rule_3) (fun _ h9 => h9) rfl dX11_rule_40 ?_
    obtain rfl := ou1 hf
    rw [hQ]
    exact W.iret hx hb hr (fun t ht hW => ⟨⟨_, (), rfl, rfl, by rw [ht]; exact hP, va_K.moved hW.alike hK, hD⟩, hS.F ht⟩) hS.2.2 dX11_rule_43
  replace hf := ite_f hk2 hf
  rcases Decidable.em (x1 = (1 : Int)) with hk3 | hk3
  ·
    replace hf := ite_t hk3 hf
    refine lv_tableIn (tgt := 44) hx hb dX11_rule_1 (by rw [hk3]; decide) (by rw [hk3]; decide) (by rw [hk3]; rfl) (by decide) ?_
    clear hk3 hk2
    refine lv_aload_n hx hb dX11_rule_44 rfl (lv_at hl 0 rfl) ?_
    refine va_get (D := D) (ci := 11) (v := .ref a_p0_rules) (C := RX11) (T := TX11) (N := 15) hx hb hts inX11_rule_X11 hown hK hP 0 rfl rfl 0 (by decide) (hts _ mwX11_rule_1) (fun _ h9 => h9) rfl dX11_rule_45 ?_
    refine va_get (D := D) (ci := 6) (v := .int (Int32.ofInt i_p0_rules_stirs)) (C := RX6) (T := TX6) (N := 7) hx hb hts inX11_rule_X6 hown hK hP 1 rfl rfl 1 (by decide) (hts _ mwX11_rule_4) (fun _ h9 => h9) rfl dX11_rule_48 ?_
    obtain rfl := ou1 hf
    rw [hQ]
    exact W.iret hx hb hr (fun t ht hW => ⟨⟨_, (), rfl, rfl, by rw [ht]; exact hP, va_K.moved hW.alike hK, hD⟩, hS.F ht⟩) hS.2.2 dX11_rule_51
  replace hf := ite_f hk3 hf
  rcases Decidable.em (x1 = (2 : Int)) with hk4 | hk4
  ·
    replace hf := ite_t hk4 hf
    refine lv_tableIn (tgt := 52) hx hb dX11_rule_1 (by rw [hk4]; decide) (by rw [hk4]; decide) (by rw [hk4]; rfl) (by decide) ?_
    clear hk4 hk2 hk3
    refine lv_aload_n hx hb dX11_rule_52 rfl (lv_at hl 0 rfl) ?_
    refine va_get (D := D) (ci := 11) (v := .ref a_p0_state) (C := RX11) (T := TX11) (N := 15) hx hb hts inX11_rule_X11 hown hK hP 0 rfl rfl 1 (by decide) (hts _ mwX11_rule_5) (fun _ h9 => h9) rfl dX11_rule_53 ?_
    refine va_get (D := D) (ci := 8) (v := .int (Int32.ofInt i_p0_state_king)) (C := RX8) (T := TX8) (N := 9) hx hb hts inX11_rule_X8 hown hK hP 2 rfl rfl 7 (by decide) (hts _ mwX11_rule_7) (fun _ h9 => h9) rfl dX11_rule_56 ?_
    obtain rfl := ou1 hf
    rw [hQ]
    exact W.iret hx hb hr (fun t ht hW => ⟨⟨_, (), rfl, rfl, by rw [ht]; exact hP, va_K.moved hW.alike hK, hD⟩, hS.F ht⟩) hS.2.2 dX11_rule_59
  replace hf := ite_f hk4 hf
  rcases Decidable.em (x1 = (3 : Int)) with hk5 | hk5
  ·
    replace hf := ite_t hk5 hf
    refine lv_tableIn (tgt := 60) hx hb dX11_rule_1 (by rw [hk5]; decide) (by rw [hk5]; decide) (by rw [hk5]; rfl) (by decide) ?_
    clear hk5 hk2 hk3 hk4
    refine lv_aload_n hx hb dX11_rule_60 rfl (lv_at hl 0 rfl) ?_
    refine va_get (D := D) (ci := 11) (v := .ref a_p0_state) (C := RX11) (T := TX11) (N := 15) hx hb hts inX11_rule_X11 hown hK hP 0 rfl rfl 1 (by decide) (hts _ mwX11_rule_5) (fun _ h9 => h9) rfl dX11_rule_61 ?_
    refine va_get (D := D) (ci := 8) (v := .int (Int32.ofInt i_p0_state_days)) (C := RX8) (T := TX8) (N := 9) hx hb hts inX11_rule_X8 hown hK hP 2 rfl rfl 8 (by decide) (hts _ mwX11_rule_8) (fun _ h9 => h9) rfl dX11_rule_64 ?_
    obtain rfl := ou1 hf
    rw [hQ]
    exact W.iret hx hb hr (fun t ht hW => ⟨⟨_, (), rfl, rfl, by rw [ht]; exact hP, va_K.moved hW.alike hK, hD⟩, hS.F ht⟩) hS.2.2 dX11_rule_67
  replace hf := ite_f hk5 hf
  rcases Decidable.em (x1 = (4 : Int)) with hk6 | hk6
  ·
    replace hf := ite_t hk6 hf
    refine lv_tableIn (tgt := 68) hx hb dX11_rule_1 (by rw [hk6]; decide) (by rw [hk6]; decide) (by rw [hk6]; rfl) (by decide) ?_
    clear hk6 hk2 hk3 hk4 hk5
    refine lv_aload_n hx hb dX11_rule_68 rfl (lv_at hl 0 rfl) ?_
    refine va_get (D := D) (ci := 11) (v := .ref a_p0_state) (C := RX11) (T := TX11) (N := 15) hx hb hts inX11_rule_X11 hown hK hP 0 rfl rfl 1 (by decide) (hts _ mwX11_rule_5) (fun _ h9 => h9) rfl dX11_rule_69 ?_
    refine va_get (D := D) (ci := 8) (v := .int (Int32.ofInt i_p0_state_bone)) (C := RX8) (T := TX8) (N := 9) hx hb hts inX11_rule_X8 hown hK hP 2 rfl rfl 6 (by decide) (hts _ mwX11_rule_9) (fun _ h9 => h9) rfl dX11_rule_72 ?_
    obtain rfl := ou1 hf
    rw [hQ]
    exact W.iret hx hb hr (fun t ht hW => ⟨⟨_, (), rfl, rfl, by rw [ht]; exact hP, va_K.moved hW.alike hK, hD⟩, hS.F ht⟩) hS.2.2 dX11_rule_75
  replace hf := ite_f hk6 hf
  refine lv_tableOut (tgt := 76) hx hb dX11_rule_1 (by rw [z_ti hr0]; omega) (by decide) ?_
  clear hk2 hk3 hk4 hk5 hk6
  refine lv_iconst (v := Int32.ofInt (-1 : Int)) hx hb dX11_rule_76 (by decide) ?_
  obtain rfl := ou1 hf
  rw [hQ]
  exact W.iret hx hb hr (fun t ht hW => ⟨⟨_, (), rfl, rfl, by rw [ht]; exact hP, va_K.moved hW.alike hK, hD⟩, hS.F ht⟩) hS.2.2 dX11_rule_77

noncomputable def f_X11_pot (i_p0_rules_seats : Int) (v_p0_state_pieces : (Int → Int)) (x1 : Int) : Option (Int) := (bd1 (f_X6_hasSeat i_p0_rules_seats x1) (fun (z1 : Int) => (ck (z_r32 z1) (if z1 = (0 : Int) then (some (-1 : Int)) else (ck (z_ix x1 7) (some (v_p0_state_pieces x1)))))))
abbrev rm_X11_pot : Room := { frames := 1, cells := 0, slots := 0, locals := 21 }
theorem inX11_pot_X11 : ∀ w ∈ wsX110, w ∈ wsX11_pot := by first | exact fun w h => List.mem_cons_of_mem _ (List.mem_append_left _ (List.mem_append_left _ (List.mem_append_right _ h))) | decide +kernel
theorem mwX11_pot_1 : Cond.fieldLink RX11 10 "LadleKings" "rules" "LLadleKings$Rules;" ∈ wsX11_pot := by first | exact List.mem_of_getElem? (i := 1) rfl | decide +kernel
theorem hdV_yX6_hasSeat_RX6 : yX6_hasSeat.cls = RX6 ∧ yX6_hasSeat.cls ≠ "java/lang/invoke/MethodHandle" ∧ yX6_hasSeat.cls ≠ "java/lang/invoke/VarHandle" ∧ (parseMethodDescriptor yX6_hasSeat.desc).map (fun d => d.parameters.length) = some 1 := by decide +kernel
theorem mwX11_pot_3 : Cond.fieldLink RX11 19 "LadleKings" "state" "LLadleKings$State;" ∈ wsX11_pot := by first | exact List.mem_of_getElem? (i := 2) rfl | decide +kernel
theorem inX11_pot_X8 : ∀ w ∈ wsX80, w ∈ wsX11_pot := by first | exact fun w h => List.mem_cons_of_mem _ (List.mem_append_left _ (List.mem_append_right _ h)) | decide +kernel
theorem mwX11_pot_5 : Cond.fieldLink RX11 149 "LadleKings$State" "pieces" "[I" ∈ wsX11_pot := by first | exact List.mem_of_getElem? (i := 3) rfl | decide +kernel
set_option maxHeartbeats 8000000 in
set_option maxRecDepth 100000 in
theorem c_X11_pot (l : Launch) (D : va_G) (G : Nat → ClassId) (sz : Nat) (a_p0 : Nat) (a_p0_rules : Nat) (a_p0_state : Nat) (a_p0_tape : Nat) (a_p0_reader : Nat) (a_p0_kitchen : Nat) (a_p0_luck : Nat) (a_p0_plans : Nat) (a_p0_coups : Nat) (a_p0_past : Nat) (a_p0_fairDays : Nat) (a_p0_images : Nat) (a_p0_imageHeld : Nat) (a_p0_sheets : Nat) (a_p0_rules_need : Nat) (a_p0_rules_kind : Nat) (a_p0_rules_first : Nat) (a_p0_rules_second : Nat) (a_p0_rules_after : Nat) (a_p0_state_pieces : Nat) (a_p0_state_friends : Nat) (a_p0_state_spoons : Nat) (a_p0_state_eaten : Nat) (a_p0_state_seen : Nat) (i_p0_latestFault : Int) (i_p0_latestTear : Int) (i_p0_rules_seats : Int) (i_p0_rules_stirs : Int) (i_p0_state_seenDays : Int) (i_p0_state_bone : Int) (i_p0_state_king : Int) (i_p0_state_days : Int) (v_p0_state_pieces : (Int → Int)) (x1 : Int) (r : Int) (hf : f_X11_pot i_p0_rules_seats v_p0_state_pieces x1 = some r) : Met l yX11_pot wsX11_pot rm_X11_pot (pcG D G [.ref a_p0, .int (Int32.ofInt x1)] sz [(a_p0, .inr (11, [.ref a_p0_rules, .ref a_p0_state, .ref a_p0_tape, .ref a_p0_reader, .ref a_p0_kitchen, .ref a_p0_luck, .ref a_p0_plans, .ref a_p0_coups, .ref a_p0_past, .ref a_p0_fairDays, .ref a_p0_images, .ref a_p0_imageHeld, .ref a_p0_sheets, .int (Int32.ofInt i_p0_latestFault), .int (Int32.ofInt i_p0_latestTear)])), (a_p0_rules, .inr (6, [.int (Int32.ofInt i_p0_rules_seats), .int (Int32.ofInt i_p0_rules_stirs), .ref a_p0_rules_need, .ref a_p0_rules_kind, .ref a_p0_rules_first, .ref a_p0_rules_second, .ref a_p0_rules_after])), (a_p0_state, .inr (8, [.ref a_p0_state_pieces, .ref a_p0_state_friends, .ref a_p0_state_spoons, .ref a_p0_state_eaten, .ref a_p0_state_seen, .int (Int32.ofInt i_p0_state_seenDays), .int (Int32.ofInt i_p0_state_bone), .int (Int32.ofInt i_p0_state_king), .int (Int32.ofInt i_p0_state_days)])), (a_p0_state_pieces, .inl (G 1, 7, .inl (zA v_p0_state_pieces)))]) (qcI D G (Int32.ofInt r) [(a_p0, .inr (11, [.ref a_p0_rules, .ref a_p0_state, .ref a_p0_tape, .ref a_p0_reader, .ref a_p0_kitchen, .ref a_p0_luck, .ref a_p0_plans, .ref a_p0_coups, .ref a_p0_past, .ref a_p0_fairDays, .ref a_p0_images, .ref a_p0_imageHeld, .ref a_p0_sheets, .int (Int32.ofInt i_p0_latestFault), .int (Int32.ofInt i_p0_latestTear)])), (a_p0_rules, .inr (6, [.int (Int32.ofInt i_p0_rules_seats), .int (Int32.ofInt i_p0_rules_stirs), .ref a_p0_rules_need, .ref a_p0_rules_kind, .ref a_p0_rules_first, .ref a_p0_rules_second, .ref a_p0_rules_after])), (a_p0_state, .inr (8, [.ref a_p0_state_pieces, .ref a_p0_state_friends, .ref a_p0_state_spoons, .ref a_p0_state_eaten, .ref a_p0_state_seen, .int (Int32.ofInt i_p0_state_seenDays), .int (Int32.ofInt i_p0_state_bone), .int (Int32.ofInt i_p0_state_king), .int (Int32.ofInt i_p0_state_days)])), (a_p0_state_pieces, .inl (G 1, 7, .inl (zA v_p0_state_pieces)))] (va_A [(a_p0, .inr (11, [.ref a_p0_rules, .ref a_p0_state, .ref a_p0_tape, .ref a_p0_reader, .ref a_p0_kitchen, .ref a_p0_luck, .ref a_p0_plans, .ref a_p0_coups, .ref a_p0_past, .ref a_p0_fairDays, .ref a_p0_images, .ref a_p0_imageHeld, .ref a_p0_sheets, .int (Int32.ofInt i_p0_latestFault), .int (Int32.ofInt i_p0_latestTear)])), (a_p0_rules, .inr (6, [.int (Int32.ofInt i_p0_rules_seats), .int (Int32.ofInt i_p0_rules_stirs), .ref a_p0_rules_need, .ref a_p0_rules_kind, .ref a_p0_rules_first, .ref a_p0_rules_second, .ref a_p0_rules_after])), (a_p0_state, .inr (8, [.ref a_p0_state_pieces, .ref a_p0_state_friends, .ref a_p0_state_spoons, .ref a_p0_state_eaten, .ref a_p0_state_seen, .int (Int32.ofInt i_p0_state_seenDays), .int (Int32.ofInt i_p0_state_bone), .int (Int32.ofInt i_p0_state_king), .int (Int32.ofInt i_p0_state_days)])), (a_p0_state_pieces, .inl (G 1, 7, .inl (zA v_p0_state_pieces)))] sz)) 0 0 (va_A [(a_p0, .inr (11, [.ref a_p0_rules, .ref a_p0_state, .ref a_p0_tape, .ref a_p0_reader, .ref a_p0_kitchen, .ref a_p0_luck, .ref a_p0_plans, .ref a_p0_coups, .ref a_p0_past, .ref a_p0_fairDays, .ref a_p0_images, .ref a_p0_imageHeld, .ref a_p0_sheets, .int (Int32.ofInt i_p0_latestFault), .int (Int32.ofInt i_p0_latestTear)])), (a_p0_rules, .inr (6, [.int (Int32.ofInt i_p0_rules_seats), .int (Int32.ofInt i_p0_rules_stirs), .ref a_p0_rules_need, .ref a_p0_rules_kind, .ref a_p0_rules_first, .ref a_p0_rules_second, .ref a_p0_rules_after])), (a_p0_state, .inr (8, [.ref a_p0_state_pieces, .ref a_p0_state_friends, .ref a_p0_state_spoons, .ref a_p0_state_eaten, .ref a_p0_state_seen, .int (Int32.ofInt i_p0_state_seenDays), .int (Int32.ofInt i_p0_state_bone), .int (Int32.ofInt i_p0_state_king), .int (Int32.ofInt i_p0_state_days)])), (a_p0_state_pieces, .inl (G 1, 7, .inl (zA v_p0_state_pieces)))] sz) := by
  refine Met.ofW (cc := cX11_pot) (maxL := 2) (ret := (some .int)) (by decide) rfl ?_
  intro p e s m args below meth c s₁ B hml hv
  obtain ⟨rfl, hsz, hP, hK, hD0⟩ := hv
  have hx := B.exec
  have hb := B.bytes
  have hr := B.returns
  have hts := atoms_spec (ws := wsX11_pot) B.pre
  have hown : s.vm.findClass RX11 = some m.cls := findClass_of_methodNamed B.named
  have hlocks := B.notSynchronized
  subst hsz
  have hD := hD0.self (sz := s.heap.size)
  generalize hAe : va_A [(a_p0, .inr (11, [.ref a_p0_rules, .ref a_p0_state, .ref a_p0_tape, .ref a_p0_reader, .ref a_p0_kitchen, .ref a_p0_luck, .ref a_p0_plans, .ref a_p0_coups, .ref a_p0_past, .ref a_p0_fairDays, .ref a_p0_images, .ref a_p0_imageHeld, .ref a_p0_sheets, .int (Int32.ofInt i_p0_latestFault), .int (Int32.ofInt i_p0_latestTear)])), (a_p0_rules, .inr (6, [.int (Int32.ofInt i_p0_rules_seats), .int (Int32.ofInt i_p0_rules_stirs), .ref a_p0_rules_need, .ref a_p0_rules_kind, .ref a_p0_rules_first, .ref a_p0_rules_second, .ref a_p0_rules_after])), (a_p0_state, .inr (8, [.ref a_p0_state_pieces, .ref a_p0_state_friends, .ref a_p0_state_spoons, .ref a_p0_state_eaten, .ref a_p0_state_seen, .int (Int32.ofInt i_p0_state_seenDays), .int (Int32.ofInt i_p0_state_bone), .int (Int32.ofInt i_p0_state_king), .int (Int32.ofInt i_p0_state_days)])), (a_p0_state_pieces, .inl (G 1, 7, .inl (zA v_p0_state_pieces)))] s.heap.size = A at hD ⊢
  have hA : ∀ q : Nat, s.heap.size ≤ q → A q := fun q h => by rw [← hAe]; exact Or.inr h
  clear hAe hD0
  have hS : va_S A s.heap s.heap [] := va_S.rf
  have hl := lv_entry ([.ref a_p0, .int (Int32.ofInt x1)]) (n := 2) (Nat.le_of_ble_eq_true rfl)
  rw [lg_entry_eq]
  generalize (lg_sl ([.ref a_p0, .int (Int32.ofInt x1)]) ++ List.replicate (2 - (lg_sl ([.ref a_p0, .int (Int32.ofInt x1)])).length) Slot.unset).toArray = ls at hl ⊢
  have hl : lv_has ls 2 [(0, .ref a_p0), (1, .int (Int32.ofInt x1))] := hl
  refine W_nameQ (fun Q hQ => ?_)
  obtain ⟨H, hH⟩ : ∃ H, H = s.heap := ⟨_, rfl⟩
  replace hS : va_S A s.heap H [] := by rw [hH]; exact hS
  replace hP : va_P D vwCl [(a_p0, .inr (11, [.ref a_p0_rules, .ref a_p0_state, .ref a_p0_tape, .ref a_p0_reader, .ref a_p0_kitchen, .ref a_p0_luck, .ref a_p0_plans, .ref a_p0_coups, .ref a_p0_past, .ref a_p0_fairDays, .ref a_p0_images, .ref a_p0_imageHeld, .ref a_p0_sheets, .int (Int32.ofInt i_p0_latestFault), .int (Int32.ofInt i_p0_latestTear)])), (a_p0_rules, .inr (6, [.int (Int32.ofInt i_p0_rules_seats), .int (Int32.ofInt i_p0_rules_stirs), .ref a_p0_rules_need, .ref a_p0_rules_kind, .ref a_p0_rules_first, .ref a_p0_rules_second, .ref a_p0_rules_after])), (a_p0_state, .inr (8, [.ref a_p0_state_pieces, .ref a_p0_state_friends, .ref a_p0_state_spoons, .ref a_p0_state_eaten, .ref a_p0_state_seen, .int (Int32.ofInt i_p0_state_seenDays), .int (Int32.ofInt i_p0_state_bone), .int (Int32.ofInt i_p0_state_king), .int (Int32.ofInt i_p0_state_days)])), (a_p0_state_pieces, .inl (G 1, 7, .inl (zA v_p0_state_pieces)))] H := by rw [hH]; exact hP
  rw [← hH]
  clear hH
  unfold f_X11_pot at hf
  refine lv_aload_n hx hb dX11_pot_0 rfl (lv_at hl 0 rfl) ?_
  refine va_get (D := D) (ci := 11) (v := .ref a_p0_rules) (C := RX11) (T := TX11) (N := 15) hx hb hts inX11_pot_X11 hown hK hP 0 rfl rfl 0 (by decide) (hts _ mwX11_pot_1) (fun _ h9 => h9) rfl dX11_pot_1 ?_
  refine lv_iload_n hx hb dX11_pot_4 rfl (lv_at hl 1 rfl) ?_
  have hq := bd1_s hf
  clear hf
  obtain ⟨z1, hcall, hf⟩ := hq
  refine gnI (va_runV (As := [.int (Int32.ofInt x1)]) (rest := []) ⟨hx, hb, hml, hown, hts⟩ (c_X6_hasSeat (l := l) (D := D) (G := G) (sz := H.size) (a_p0 := a_p0_rules) (a_p0_need := a_p0_rules_need) (a_p0_kind := a_p0_rules_kind) (a_p0_first := a_p0_rules_first) (a_p0_second := a_p0_rules_second) (a_p0_after := a_p0_rules_after) (i_p0_seats := i_p0_rules_seats) (i_p0_stirs := i_p0_rules_stirs) (x1 := x1) (r := z1) (hf := hcall)) (cwV 1 hts gX11_pot_X6_hasSeat rfl rfl rfl hdV_yX6_hasSeat_RX6 ⟨Nat.le_of_ble_eq_true rfl, Nat.le_of_ble_eq_true rfl⟩) (preG_V (ci := 6) (q := (RX6, TX6, 7)) (hP.sub [1] rfl) (hD.sub [1] rfl rfl) hK rfl rfl) rfl rfl hl.1 rfl (lv_room (Nat.le_of_ble_eq_true rfl)) dX11_pot_5 ⟨Nat.le_of_ble_eq_true rfl, Nat.le_of_ble_eq_true rfl⟩) hP hD hS hA [1] rfl (fun H locs hP hD hS => ?_)
  clear hcall
  have hr1 := ck_c hf
  replace hf := ck_r hf
  refine lv_if_eq (tgt := 23) hx hb dX11_pot_8 (by decide) (fun cc => ?_) (fun cc => ?_)
  ·
    replace hf := ite_t ((z_eq0 hr1).mp cc) hf
    clear cc
    refine lv_iconst (v := Int32.ofInt (-1 : Int)) hx hb dX11_pot_23 (by decide) ?_
    obtain rfl := ou1 hf
    rw [hQ]
    exact W.iret hx hb hr (fun t ht hW => ⟨⟨_, (), rfl, rfl, by rw [ht]; exact hP, va_K.moved hW.alike hK, hD⟩, hS.F ht⟩) hS.2.2 dX11_pot_24
  ·
    replace hf := ite_f (fun h9 => cc ((z_eq0 hr1).mpr h9)) hf
    clear cc
    refine lv_aload_n hx hb dX11_pot_11 rfl (lv_at hl 0 rfl) ?_
    refine va_get (D := D) (ci := 11) (v := .ref a_p0_state) (C := RX11) (T := TX11) (N := 15) hx hb hts inX11_pot_X11 hown hK hP 0 rfl rfl 1 (by decide) (hts _ mwX11_pot_3) (fun _ h9 => h9) rfl dX11_pot_12 ?_
    refine va_get (D := D) (ci := 8) (v := .ref a_p0_state_pieces) (C := RX8) (T := TX8) (N := 9) hx hb hts inX11_pot_X8 hown hK hP 2 rfl rfl 0 (by decide) (hts _ mwX11_pot_5) (fun _ h9 => h9) rfl dX11_pot_15 ?_
    refine lv_iload_n hx hb dX11_pot_18 rfl (lv_at hl 1 rfl) ?_
    have hc := ck_c hf
    replace hf := ck_r hf
    refine va_iald hx hb hK hP 3 1 rfl rfl (z_ix_in hc) dX11_pot_19 (z_ci (z_ald v_p0_state_pieces hc) ?_)
    clear hc
    refine lv_goto (tgt := 24) hx hb dX11_pot_20 (by decide) ?_
    obtain rfl := ou1 hf
    rw [hQ]
    exact W.iret hx hb hr (fun t ht hW => ⟨⟨_, (), rfl, rfl, by rw [ht]; exact hP, va_K.moved hW.alike hK, hD⟩, hS.F ht⟩) hS.2.2 dX11_pot_24

noncomputable def f_X11_one (i_p0_rules_seats : Int) (v_p0_rules_need : (Int → Int)) (v_p0_state_friends : (Int → Int)) (v_p0_state_spoons : (Int → Int)) (v_p0_state_eaten : (Int → Int)) (x1 : Int) (x2 : Int) : Option (Int) := (bd1 (f_X6_hasSeat i_p0_rules_seats x1) (fun (z1 : Int) => (ck (z_r32 z1) (if z1 = (0 : Int) then (some (-1 : Int)) else (ck (z_r32 x2) (if x2 = (0 : Int) then (ck (z_ix x1 7) (some (v_p0_state_friends x1))) else (if x2 = (1 : Int) then (ck (z_ix x1 7) (some (v_p0_state_spoons x1))) else (if x2 = (2 : Int) then (ck (z_ix x1 7) (some (v_p0_rules_need x1))) else (if x2 = (3 : Int) then (ck (z_ix x1 7) (some (v_p0_state_eaten x1))) else (some (-1 : Int)))))))))))
abbrev rm_X11_one : Room := { frames := 1, cells := 0, slots := 0, locals := 21 }
theorem inX11_one_X11 : ∀ w ∈ wsX110, w ∈ wsX11_one := by first | exact fun w h => List.mem_cons_of_mem _ (List.mem_append_left _ (List.mem_append_left _ (List.mem_append_right _ h))) | decide +kernel
theorem mwX11_one_1 : Cond.fieldLink RX11 10 "LadleKings" "rules" "LLadleKings$Rules;" ∈ wsX11_one := by first | exact List.mem_of_getElem? (i := 1) rfl | decide +kernel
theorem mwX11_one_2 : Cond.fieldLink RX11 19 "LadleKings" "state" "LLadleKings$State;" ∈ wsX11_one := by first | exact List.mem_of_getElem? (i := 2) rfl | decide +kernel
theorem inX11_one_X8 : ∀ w ∈ wsX80, w ∈ wsX11_one := by first | exact fun w h => List.mem_cons_of_mem _ (List.mem_append_left _ (List.mem_append_right _ h)) | decide +kernel
theorem mwX11_one_4 : Cond.fieldLink RX11 153 "LadleKings$State" "friends" "[I" ∈ wsX11_one := by first | exact List.mem_of_getElem? (i := 3) rfl | decide +kernel
theorem mwX11_one_5 : Cond.fieldLink RX11 156 "LadleKings$State" "spoons" "[I" ∈ wsX11_one := by first | exact List.mem_of_getElem? (i := 4) rfl | decide +kernel
theorem inX11_one_X6 : ∀ w ∈ wsX60, w ∈ wsX11_one := by first | exact fun w h => List.mem_cons_of_mem _ (List.mem_append_right _ h) | decide +kernel
theorem mwX11_one_7 : Cond.fieldLink RX11 159 "LadleKings$Rules" "need" "[I" ∈ wsX11_one := by first | exact List.mem_of_getElem? (i := 5) rfl | decide +kernel
theorem mwX11_one_8 : Cond.fieldLink RX11 162 "LadleKings$State" "eaten" "[I" ∈ wsX11_one := by first | exact List.mem_of_getElem? (i := 6) rfl | decide +kernel
set_option maxHeartbeats 8000000 in
set_option maxRecDepth 100000 in
theorem c_X11_one (l : Launch) (D : va_G) (G : Nat → ClassId) (sz : Nat) (a_p0 : Nat) (a_p0_rules : Nat) (a_p0_state : Nat) (a_p0_tape : Nat) (a_p0_reader : Nat) (a_p0_kitchen : Nat) (a_p0_luck : Nat) (a_p0_plans : Nat) (a_p0_coups : Nat) (a_p0_past : Nat) (a_p0_fairDays : Nat) (a_p0_images : Nat) (a_p0_imageHeld : Nat) (a_p0_sheets : Nat) (a_p0_rules_need : Nat) (a_p0_rules_kind : Nat) (a_p0_rules_first : Nat) (a_p0_rules_second : Nat) (a_p0_rules_after : Nat) (a_p0_state_pieces : Nat) (a_p0_state_friends : Nat) (a_p0_state_spoons : Nat) (a_p0_state_eaten : Nat) (a_p0_state_seen : Nat) (i_p0_latestFault : Int) (i_p0_latestTear : Int) (i_p0_rules_seats : Int) (i_p0_rules_stirs : Int) (v_p0_rules_need : (Int → Int)) (i_p0_state_seenDays : Int) (i_p0_state_bone : Int) (i_p0_state_king : Int) (i_p0_state_days : Int) (v_p0_state_friends : (Int → Int)) (v_p0_state_spoons : (Int → Int)) (v_p0_state_eaten : (Int → Int)) (x1 : Int) (x2 : Int) (r : Int) (hf : f_X11_one i_p0_rules_seats v_p0_rules_need v_p0_state_friends v_p0_state_spoons v_p0_state_eaten x1 x2 = some r) : Met l yX11_one wsX11_one rm_X11_one (pcG D G [.ref a_p0, .int (Int32.ofInt x1), .int (Int32.ofInt x2)] sz [(a_p0, .inr (11, [.ref a_p0_rules, .ref a_p0_state, .ref a_p0_tape, .ref a_p0_reader, .ref a_p0_kitchen, .ref a_p0_luck, .ref a_p0_plans, .ref a_p0_coups, .ref a_p0_past, .ref a_p0_fairDays, .ref a_p0_images, .ref a_p0_imageHeld, .ref a_p0_sheets, .int (Int32.ofInt i_p0_latestFault), .int (Int32.ofInt i_p0_latestTear)])), (a_p0_rules, .inr (6, [.int (Int32.ofInt i_p0_rules_seats), .int (Int32.ofInt i_p0_rules_stirs), .ref a_p0_rules_need, .ref a_p0_rules_kind, .ref a_p0_rules_first, .ref a_p0_rules_second, .ref a_p0_rules_after])), (a_p0_rules_need, .inl (G 1, 7, .inl (zA v_p0_rules_need))), (a_p0_state, .inr (8, [.ref a_p0_state_pieces, .ref a_p0_state_friends, .ref a_p0_state_spoons, .ref a_p0_state_eaten, .ref a_p0_state_seen, .int (Int32.ofInt i_p0_state_seenDays), .int (Int32.ofInt i_p0_state_bone), .int (Int32.ofInt i_p0_state_king), .int (Int32.ofInt i_p0_state_days)])), (a_p0_state_friends, .inl (G 1, 7, .inl (zA v_p0_state_friends))), (a_p0_state_spoons, .inl (G 1, 7, .inl (zA v_p0_state_spoons))), (a_p0_state_eaten, .inl (G 1, 7, .inl (zA v_p0_state_eaten)))]) (qcI D G (Int32.ofInt r) [(a_p0, .inr (11, [.ref a_p0_rules, .ref a_p0_state, .ref a_p0_tape, .ref a_p0_reader, .ref a_p0_kitchen, .ref a_p0_luck, .ref a_p0_plans, .ref a_p0_coups, .ref a_p0_past, .ref a_p0_fairDays, .ref a_p0_images, .ref a_p0_imageHeld, .ref a_p0_sheets, .int (Int32.ofInt i_p0_latestFault), .int (Int32.ofInt i_p0_latestTear)])), (a_p0_rules, .inr (6, [.int (Int32.ofInt i_p0_rules_seats), .int (Int32.ofInt i_p0_rules_stirs), .ref a_p0_rules_need, .ref a_p0_rules_kind, .ref a_p0_rules_first, .ref a_p0_rules_second, .ref a_p0_rules_after])), (a_p0_rules_need, .inl (G 1, 7, .inl (zA v_p0_rules_need))), (a_p0_state, .inr (8, [.ref a_p0_state_pieces, .ref a_p0_state_friends, .ref a_p0_state_spoons, .ref a_p0_state_eaten, .ref a_p0_state_seen, .int (Int32.ofInt i_p0_state_seenDays), .int (Int32.ofInt i_p0_state_bone), .int (Int32.ofInt i_p0_state_king), .int (Int32.ofInt i_p0_state_days)])), (a_p0_state_friends, .inl (G 1, 7, .inl (zA v_p0_state_friends))), (a_p0_state_spoons, .inl (G 1, 7, .inl (zA v_p0_state_spoons))), (a_p0_state_eaten, .inl (G 1, 7, .inl (zA v_p0_state_eaten)))] (va_A [(a_p0, .inr (11, [.ref a_p0_rules, .ref a_p0_state, .ref a_p0_tape, .ref a_p0_reader, .ref a_p0_kitchen, .ref a_p0_luck, .ref a_p0_plans, .ref a_p0_coups, .ref a_p0_past, .ref a_p0_fairDays, .ref a_p0_images, .ref a_p0_imageHeld, .ref a_p0_sheets, .int (Int32.ofInt i_p0_latestFault), .int (Int32.ofInt i_p0_latestTear)])), (a_p0_rules, .inr (6, [.int (Int32.ofInt i_p0_rules_seats), .int (Int32.ofInt i_p0_rules_stirs), .ref a_p0_rules_need, .ref a_p0_rules_kind, .ref a_p0_rules_first, .ref a_p0_rules_second, .ref a_p0_rules_after])), (a_p0_rules_need, .inl (G 1, 7, .inl (zA v_p0_rules_need))), (a_p0_state, .inr (8, [.ref a_p0_state_pieces, .ref a_p0_state_friends, .ref a_p0_state_spoons, .ref a_p0_state_eaten, .ref a_p0_state_seen, .int (Int32.ofInt i_p0_state_seenDays), .int (Int32.ofInt i_p0_state_bone), .int (Int32.ofInt i_p0_state_king), .int (Int32.ofInt i_p0_state_days)])), (a_p0_state_friends, .inl (G 1, 7, .inl (zA v_p0_state_friends))), (a_p0_state_spoons, .inl (G 1, 7, .inl (zA v_p0_state_spoons))), (a_p0_state_eaten, .inl (G 1, 7, .inl (zA v_p0_state_eaten)))] sz)) 0 0 (va_A [(a_p0, .inr (11, [.ref a_p0_rules, .ref a_p0_state, .ref a_p0_tape, .ref a_p0_reader, .ref a_p0_kitchen, .ref a_p0_luck, .ref a_p0_plans, .ref a_p0_coups, .ref a_p0_past, .ref a_p0_fairDays, .ref a_p0_images, .ref a_p0_imageHeld, .ref a_p0_sheets, .int (Int32.ofInt i_p0_latestFault), .int (Int32.ofInt i_p0_latestTear)])), (a_p0_rules, .inr (6, [.int (Int32.ofInt i_p0_rules_seats), .int (Int32.ofInt i_p0_rules_stirs), .ref a_p0_rules_need, .ref a_p0_rules_kind, .ref a_p0_rules_first, .ref a_p0_rules_second, .ref a_p0_rules_after])), (a_p0_rules_need, .inl (G 1, 7, .inl (zA v_p0_rules_need))), (a_p0_state, .inr (8, [.ref a_p0_state_pieces, .ref a_p0_state_friends, .ref a_p0_state_spoons, .ref a_p0_state_eaten, .ref a_p0_state_seen, .int (Int32.ofInt i_p0_state_seenDays), .int (Int32.ofInt i_p0_state_bone), .int (Int32.ofInt i_p0_state_king), .int (Int32.ofInt i_p0_state_days)])), (a_p0_state_friends, .inl (G 1, 7, .inl (zA v_p0_state_friends))), (a_p0_state_spoons, .inl (G 1, 7, .inl (zA v_p0_state_spoons))), (a_p0_state_eaten, .inl (G 1, 7, .inl (zA v_p0_state_eaten)))] sz) := by
  refine Met.ofW (cc := cX11_one) (maxL := 3) (ret := (some .int)) (by decide) rfl ?_
  intro p e s m args below meth c s₁ B hml hv
  obtain ⟨rfl, hsz, hP, hK, hD0⟩ := hv
  have hx := B.exec
  have hb := B.bytes
  have hr := B.returns
  have hts := atoms_spec (ws := wsX11_one) B.pre
  have hown : s.vm.findClass RX11 = some m.cls := findClass_of_methodNamed B.named
  have hlocks := B.notSynchronized
  subst hsz
  have hD := hD0.self (sz := s.heap.size)
  generalize hAe : va_A [(a_p0, .inr (11, [.ref a_p0_rules, .ref a_p0_state, .ref a_p0_tape, .ref a_p0_reader, .ref a_p0_kitchen, .ref a_p0_luck, .ref a_p0_plans, .ref a_p0_coups, .ref a_p0_past, .ref a_p0_fairDays, .ref a_p0_images, .ref a_p0_imageHeld, .ref a_p0_sheets, .int (Int32.ofInt i_p0_latestFault), .int (Int32.ofInt i_p0_latestTear)])), (a_p0_rules, .inr (6, [.int (Int32.ofInt i_p0_rules_seats), .int (Int32.ofInt i_p0_rules_stirs), .ref a_p0_rules_need, .ref a_p0_rules_kind, .ref a_p0_rules_first, .ref a_p0_rules_second, .ref a_p0_rules_after])), (a_p0_rules_need, .inl (G 1, 7, .inl (zA v_p0_rules_need))), (a_p0_state, .inr (8, [.ref a_p0_state_pieces, .ref a_p0_state_friends, .ref a_p0_state_spoons, .ref a_p0_state_eaten, .ref a_p0_state_seen, .int (Int32.ofInt i_p0_state_seenDays), .int (Int32.ofInt i_p0_state_bone), .int (Int32.ofInt i_p0_state_king), .int (Int32.ofInt i_p0_state_days)])), (a_p0_state_friends, .inl (G 1, 7, .inl (zA v_p0_state_friends))), (a_p0_state_spoons, .inl (G 1, 7, .inl (zA v_p0_state_spoons))), (a_p0_state_eaten, .inl (G 1, 7, .inl (zA v_p0_state_eaten)))] s.heap.size = A at hD ⊢
  have hA : ∀ q : Nat, s.heap.size ≤ q → A q := fun q h => by rw [← hAe]; exact Or.inr h
  clear hAe hD0
  have hS : va_S A s.heap s.heap [] := va_S.rf
  have hl := lv_entry ([.ref a_p0, .int (Int32.ofInt x1), .int (Int32.ofInt x2)]) (n := 3) (Nat.le_of_ble_eq_true rfl)
  rw [lg_entry_eq]
  generalize (lg_sl ([.ref a_p0, .int (Int32.ofInt x1), .int (Int32.ofInt x2)]) ++ List.replicate (3 - (lg_sl ([.ref a_p0, .int (Int32.ofInt x1), .int (Int32.ofInt x2)])).length) Slot.unset).toArray = ls at hl ⊢
  have hl : lv_has ls 3 [(0, .ref a_p0), (1, .int (Int32.ofInt x1)), (2, .int (Int32.ofInt x2))] := hl
  refine W_nameQ (fun Q hQ => ?_)
  obtain ⟨H, hH⟩ : ∃ H, H = s.heap := ⟨_, rfl⟩
  replace hS : va_S A s.heap H [] := by rw [hH]; exact hS
  replace hP : va_P D vwCl [(a_p0, .inr (11, [.ref a_p0_rules, .ref a_p0_state, .ref a_p0_tape, .ref a_p0_reader, .ref a_p0_kitchen, .ref a_p0_luck, .ref a_p0_plans, .ref a_p0_coups, .ref a_p0_past, .ref a_p0_fairDays, .ref a_p0_images, .ref a_p0_imageHeld, .ref a_p0_sheets, .int (Int32.ofInt i_p0_latestFault), .int (Int32.ofInt i_p0_latestTear)])), (a_p0_rules, .inr (6, [.int (Int32.ofInt i_p0_rules_seats), .int (Int32.ofInt i_p0_rules_stirs), .ref a_p0_rules_need, .ref a_p0_rules_kind, .ref a_p0_rules_first, .ref a_p0_rules_second, .ref a_p0_rules_after])), (a_p0_rules_need, .inl (G 1, 7, .inl (zA v_p0_rules_need))), (a_p0_state, .inr (8, [.ref a_p0_state_pieces, .ref a_p0_state_friends, .ref a_p0_state_spoons, .ref a_p0_state_eaten, .ref a_p0_state_seen, .int (Int32.ofInt i_p0_state_seenDays), .int (Int32.ofInt i_p0_state_bone), .int (Int32.ofInt i_p0_state_king), .int (Int32.ofInt i_p0_state_days)])), (a_p0_state_friends, .inl (G 1, 7, .inl (zA v_p0_state_friends))), (a_p0_state_spoons, .inl (G 1, 7, .inl (zA v_p0_state_spoons))), (a_p0_state_eaten, .inl (G 1, 7, .inl (zA v_p0_state_eaten)))] H := by rw [hH]; exact hP
  rw [← hH]
  clear hH
  unfold f_X11_one at hf
  refine lv_aload_n hx hb dX11_one_0 rfl (lv_at hl 0 rfl) ?_
  refine va_get (D := D) (ci := 11) (v := .ref a_p0_rules) (C := RX11) (T := TX11) (N := 15) hx hb hts inX11_one_X11 hown hK hP 0 rfl rfl 0 (by decide) (hts _ mwX11_one_1) (fun _ h9 => h9) rfl dX11_one_1 ?_
  refine lv_iload_n hx hb dX11_one_4 rfl (lv_at hl 1 rfl) ?_
  have hq := bd1_s hf
  clear hf
  obtain ⟨z1, hcall, hf⟩ := hq
  refine gnI (va_runV (As := [.int (Int32.ofInt x1)]) (rest := []) ⟨hx, hb, hml, hown, hts⟩ (c_X6_hasSeat (l := l) (D := D) (G := G) (sz := H.size) (a_p0 := a_p0_rules) (a_p0_need := a_p0_rules_need) (a_p0_kind := a_p0_rules_kind) (a_p0_first := a_p0_rules_first) (a_p0_second := a_p0_rules_second) (a_p0_after := a_p0_rules_after) (i_p0_seats := i_p0_rules_seats) (i_p0_stirs := i_p0_rules_stirs) (x1 := x1) (r := z1) (hf := hcall)) (cwV 1 hts gX11_one_X6_hasSeat rfl rfl rfl hdV_yX6_hasSeat_RX6 ⟨Nat.le_of_ble_eq_true rfl, Nat.le_of_ble_eq_true rfl⟩) (preG_V (ci := 6) (q := (RX6, TX6, 7)) (hP.sub [1] rfl) (hD.sub [1] rfl rfl) hK rfl rfl) rfl rfl hl.1 rfl (lv_room (Nat.le_of_ble_eq_true rfl)) dX11_one_5 ⟨Nat.le_of_ble_eq_true rfl, Nat.le_of_ble_eq_true rfl⟩) hP hD hS hA [1] rfl (fun H locs hP hD hS => ?_)
  clear hcall
  have hr1 := ck_c hf
  replace hf := ck_r hf
  refine lv_if_ne (tgt := 13) hx hb dX11_one_8 (by decide) (fun cc => ?_) (fun cc => ?_)
  ·
    replace hf := ite_f (fun h9 => cc ((z_eq0 hr1).mpr h9)) hf
    clear cc
    refine lv_iload_n hx hb dX11_one_13 rfl (lv_at hl 2 rfl) ?_
    have hr2 := ck_c hf
    replace hf := ck_r hf
    rcases Decidable.em (x2 = (0 : Int)) with hk4 | hk4
    ·
      replace hf := ite_t hk4 hf
      refine lv_tableIn (tgt := 44) hx hb dX11_one_14 (by rw [hk4]; decide) (by rw [hk4]; decide) (by rw [hk4]; rfl) (by decide) ?_
      clear hk4
      refine lv_aload_n hx hb dX11_one_44 rfl (lv_at hl 0 rfl) ?_
      refine va_get (D := D) (ci := 11) (v := .ref a_p0_state) (C := RX11) (T := TX11) (N := 15) hx hb hts inX11_one_X11 hown hK hP 0 rfl rfl 1 (by decide) (hts _ mwX11_one_2) (fun _ h9 => h9) rfl dX11_one_45 ?_
      refine va_get (D := D) (ci := 8) (v := .ref a_p0_state_friends) (C := RX8) (T := TX8) (N := 9) hx hb hts inX11_one_X8 hown hK hP 3 rfl rfl 1 (by decide) (hts _ mwX11_one_4) (fun _ h9 => h9) rfl dX11_one_48 ?_
      refine lv_iload_n hx hb dX11_one_51 rfl (lv_at hl 1 rfl) ?_
      have hc := ck_c hf
      replace hf := ck_r hf
      refine va_iald hx hb hK hP 4 1 rfl rfl (z_ix_in hc) dX11_one_52 (z_ci (z_ald v_p0_state_friends hc) ?_)
      clear hc
      obtain rfl := ou1 hf
      rw [hQ]
      exact W.iret hx hb hr (fun t ht hW => ⟨⟨_, (), rfl, rfl, by rw [ht]; exact hP, va_K.moved hW.alike hK, hD⟩, hS.F ht⟩) hS.2.2 dX11_one_53
    replace hf := ite_f hk4 hf
    rcases Decidable.em (x2 = (1 : Int)) with hk5 | hk5
    ·
      replace hf := ite_t hk5 hf
      refine lv_tableIn (tgt := 54) hx hb dX11_one_14 (by rw [hk5]; decide) (by rw [hk5]; decide) (by rw [hk5]; rfl) (by decide) ?_
      clear hk5 hk4
      refine lv_aload_n hx hb dX11_one_54 rfl (lv_at hl 0 rfl) ?_
      refine va_get (D := D) (ci := 11) (v := .ref a_p0_state) (C := RX11) (T := TX11) (N := 15) hx hb hts inX11_one_X11 hown hK hP 0 rfl rfl 1 (by decide) (hts _ mwX11_one_2) (fun _ h9 => h9) rfl dX11_one_55 ?_
      refine va_get (D := D) (ci := 8) (v := .ref a_p0_state_spoons) (C := RX8) (T := TX8) (N := 9) hx hb hts inX11_one_X8 hown hK hP 3 rfl rfl 2 (by decide) (hts _ mwX11_one_5) (fun _ h9 => h9) rfl dX11_one_58 ?_
      refine lv_iload_n hx hb dX11_one_61 rfl (lv_at hl 1 rfl) ?_
      have hc := ck_c hf
      replace hf := ck_r hf
      refine va_iald hx hb hK hP 5 1 rfl rfl (z_ix_in hc) dX11_one_62 (z_ci (z_ald v_p0_state_spoons hc) ?_)
      clear hc
      obtain rfl := ou1 hf
      rw [hQ]
      exact W.iret hx hb hr (fun t ht hW => ⟨⟨_, (), rfl, rfl, by rw [ht]; exact hP, va_K.moved hW.alike hK, hD⟩, hS.F ht⟩) hS.2.2 dX11_one_63
    replace hf := ite_f hk5 hf
    rcases Decidable.em (x2 = (2 : Int)) with hk6 | hk6
    ·
      replace hf := ite_t hk6 hf
      refine lv_tableIn (tgt := 64) hx hb dX11_one_14 (by rw [hk6]; decide) (by rw [hk6]; decide) (by rw [hk6]; rfl) (by decide) ?_
      clear hk6 hk4 hk5
      refine lv_aload_n hx hb dX11_one_64 rfl (lv_at hl 0 rfl) ?_
      refine va_get (D := D) (ci := 11) (v := .ref a_p0_rules) (C := RX11) (T := TX11) (N := 15) hx hb hts inX11_one_X11 hown hK hP 0 rfl rfl 0 (by decide) (hts _ mwX11_one_1) (fun _ h9 => h9) rfl dX11_one_65 ?_
      refine va_get (D := D) (ci := 6) (v := .ref a_p0_rules_need) (C := RX6) (T := TX6) (N := 7) hx hb hts inX11_one_X6 hown hK hP 1 rfl rfl 2 (by decide) (hts _ mwX11_one_7) (fun _ h9 => h9) rfl dX11_one_68 ?_
      refine lv_iload_n hx hb dX11_one_71 rfl (lv_at hl 1 rfl) ?_
      have hc := ck_c hf
      replace hf := ck_r hf
      refine va_iald hx hb hK hP 2 1 rfl rfl (z_ix_in hc) dX11_one_72 (z_ci (z_ald v_p0_rules_need hc) ?_)
      clear hc
      obtain rfl := ou1 hf
      rw [hQ]
      exact W.iret hx hb hr (fun t ht hW => ⟨⟨_, (), rfl, rfl, by rw [ht]; exact hP, va_K.moved hW.alike hK, hD⟩, hS.F ht⟩) hS.2.2 dX11_one_73
    replace hf := ite_f hk6 hf
    rcases Decidable.em (x2 = (3 : Int)) with hk7 | hk7
    ·
      replace hf := ite_t hk7 hf
      refine lv_tableIn (tgt := 74) hx hb dX11_one_14 (by rw [hk7]; decide) (by rw [hk7]; decide) (by rw [hk7]; rfl) (by decide) ?_
      clear hk7 hk4 hk5 hk6
      refine lv_aload_n hx hb dX11_one_74 rfl (lv_at hl 0 rfl) ?_
      refine va_get (D := D) (ci := 11) (v := .ref a_p0_state) (C := RX11) (T := TX11) (N := 15) hx hb hts inX11_one_X11 hown hK hP 0 rfl rfl 1 (by decide) (hts _ mwX11_one_2) (fun _ h9 => h9) rfl dX11_one_75 ?_
      refine va_get (D := D) (ci := 8) (v := .ref a_p0_state_eaten) (C := RX8) (T := TX8) (N := 9) hx hb hts inX11_one_X8 hown hK hP 3 rfl rfl 3 (by decide) (hts _ mwX11_one_8) (fun _ h9 => h9) rfl dX11_one_78 ?_
      refine lv_iload_n hx hb dX11_one_81 rfl (lv_at hl 1 rfl) ?_
      have hc := ck_c hf
      replace hf := ck_r hf
      refine va_iald hx hb hK hP 6 1 rfl rfl (z_ix_in hc) dX11_one_82 (z_ci (z_ald v_p0_state_eaten hc) ?_)
      clear hc
      obtain rfl := ou1 hf
      rw [hQ]
      exact W.iret hx hb hr (fun t ht hW => ⟨⟨_, (), rfl, rfl, by rw [ht]; exact hP, va_K.moved hW.alike hK, hD⟩, hS.F ht⟩) hS.2.2 dX11_one_83
    replace hf := ite_f hk7 hf
    refine lv_tableOut (tgt := 84) hx hb dX11_one_14 (by rw [z_ti hr2]; omega) (by decide) ?_
    clear hk4 hk5 hk6 hk7
    refine lv_iconst (v := Int32.ofInt (-1 : Int)) hx hb dX11_one_84 (by decide) ?_
    obtain rfl := ou1 hf
    rw [hQ]
    exact W.iret hx hb hr (fun t ht hW => ⟨⟨_, (), rfl, rfl, by rw [ht]; exact hP, va_K.moved hW.alike hK, hD⟩, hS.F ht⟩) hS.2.2 dX11_one_85
  ·
    replace hf := ite_t ((z_eq0 hr1).mp cc) hf
    clear cc
    refine lv_iconst (v := Int32.ofInt (-1 : Int)) hx hb dX11_one_11 (by decide) ?_
    obtain rfl := ou1 hf
    rw [hQ]
    exact W.iret hx hb hr (fun t ht hW => ⟨⟨_, (), rfl, rfl, by rw [ht]; exact hP, va_K.moved hW.alike hK, hD⟩, hS.F ht⟩) hS.2.2 dX11_one_12

noncomputable def f_X11_stir (i_p0_rules_seats : Int) (i_p0_rules_stirs : Int) (v_p0_rules_after : (Int → Int)) (x1 : Int) (x2 : Int) : Option (Int) := (bd1 (f_X6_hasStir i_p0_rules_stirs x1) (fun (z1 : Int) => (ck (z_r32 z1) (if z1 = (0 : Int) then (some (-1 : Int)) else (bd1 (f_X6_hasSeat i_p0_rules_seats x2) (fun (z3 : Int) => (ck (z_r32 z3) (if z3 = (0 : Int) then (some (-1 : Int)) else (bd1 (f_X6_placeAfter v_p0_rules_after x1 x2) (fun (z5 : Int) => (some z5)))))))))))
abbrev rm_X11_stir : Room := { frames := 1, cells := 0, slots := 0, locals := 22 }
theorem inX11_stir_X11 : ∀ w ∈ wsX110, w ∈ wsX11_stir := by first | exact fun w h => List.mem_cons_of_mem _ (List.mem_append_left _ (List.mem_append_right _ h)) | decide +kernel
theorem mwX11_stir_1 : Cond.fieldLink RX11 10 "LadleKings" "rules" "LLadleKings$Rules;" ∈ wsX11_stir := by first | exact List.mem_of_getElem? (i := 1) rfl | decide +kernel
set_option maxHeartbeats 8000000 in
set_option maxRecDepth 100000 in
theorem c_X11_stir (l : Launch) (D : va_G) (G : Nat → ClassId) (sz : Nat) (a_p0 : Nat) (a_p0_rules : Nat) (a_p0_state : Nat) (a_p0_tape : Nat) (a_p0_reader : Nat) (a_p0_kitchen : Nat) (a_p0_luck : Nat) (a_p0_plans : Nat) (a_p0_coups : Nat) (a_p0_past : Nat) (a_p0_fairDays : Nat) (a_p0_images : Nat) (a_p0_imageHeld : Nat) (a_p0_sheets : Nat) (a_p0_rules_need : Nat) (a_p0_rules_kind : Nat) (a_p0_rules_first : Nat) (a_p0_rules_second : Nat) (a_p0_rules_after : Nat) (i_p0_latestFault : Int) (i_p0_latestTear : Int) (i_p0_rules_seats : Int) (i_p0_rules_stirs : Int) (v_p0_rules_after : (Int → Int)) (x1 : Int) (x2 : Int) (r : Int) (hf : f_X11_stir i_p0_rules_seats i_p0_rules_stirs v_p0_rules_after x1 x2 = some r) : Met l yX11_stir wsX11_stir rm_X11_stir (pcG D G [.ref a_p0, .int (Int32.ofInt x1), .int (Int32.ofInt x2)] sz [(a_p0, .inr (11, [.ref a_p0_rules, .ref a_p0_state, .ref a_p0_tape, .ref a_p0_reader, .ref a_p0_kitchen, .ref a_p0_luck, .ref a_p0_plans, .ref a_p0_coups, .ref a_p0_past, .ref a_p0_fairDays, .ref a_p0_images, .ref a_p0_imageHeld, .ref a_p0_sheets, .int (Int32.ofInt i_p0_latestFault), .int (Int32.ofInt i_p0_latestTear)])), (a_p0_rules, .inr (6, [.int (Int32.ofInt i_p0_rules_seats), .int (Int32.ofInt i_p0_rules_stirs), .ref a_p0_rules_need, .ref a_p0_rules_kind, .ref a_p0_rules_first, .ref a_p0_rules_second, .ref a_p0_rules_after])), (a_p0_rules_after, .inl (G 1, 35, .inl (zA v_p0_rules_after)))]) (qcI D G (Int32.ofInt r) [(a_p0, .inr (11, [.ref a_p0_rules, .ref a_p0_state, .ref a_p0_tape, .ref a_p0_reader, .ref a_p0_kitchen, .ref a_p0_luck, .ref a_p0_plans, .ref a_p0_coups, .ref a_p0_past, .ref a_p0_fairDays, .ref a_p0_images, .ref a_p0_imageHeld, .ref a_p0_sheets, .int (Int32.ofInt i_p0_latestFault), .int (Int32.ofInt i_p0_latestTear)])), (a_p0_rules, .inr (6, [.int (Int32.ofInt i_p0_rules_seats), .int (Int32.ofInt i_p0_rules_stirs), .ref a_p0_rules_need, .ref a_p0_rules_kind, .ref a_p0_rules_first, .ref a_p0_rules_second, .ref a_p0_rules_after])), (a_p0_rules_after, .inl (G 1, 35, .inl (zA v_p0_rules_after)))] (va_A [(a_p0, .inr (11, [.ref a_p0_rules, .ref a_p0_state, .ref a_p0_tape, .ref a_p0_reader, .ref a_p0_kitchen, .ref a_p0_luck, .ref a_p0_plans, .ref a_p0_coups, .ref a_p0_past, .ref a_p0_fairDays, .ref a_p0_images, .ref a_p0_imageHeld, .ref a_p0_sheets, .int (Int32.ofInt i_p0_latestFault), .int (Int32.ofInt i_p0_latestTear)])), (a_p0_rules, .inr (6, [.int (Int32.ofInt i_p0_rules_seats), .int (Int32.ofInt i_p0_rules_stirs), .ref a_p0_rules_need, .ref a_p0_rules_kind, .ref a_p0_rules_first, .ref a_p0_rules_second, .ref a_p0_rules_after])), (a_p0_rules_after, .inl (G 1, 35, .inl (zA v_p0_rules_after)))] sz)) 0 0 (va_A [(a_p0, .inr (11, [.ref a_p0_rules, .ref a_p0_state, .ref a_p0_tape, .ref a_p0_reader, .ref a_p0_kitchen, .ref a_p0_luck, .ref a_p0_plans, .ref a_p0_coups, .ref a_p0_past, .ref a_p0_fairDays, .ref a_p0_images, .ref a_p0_imageHeld, .ref a_p0_sheets, .int (Int32.ofInt i_p0_latestFault), .int (Int32.ofInt i_p0_latestTear)])), (a_p0_rules, .inr (6, [.int (Int32.ofInt i_p0_rules_seats), .int (Int32.ofInt i_p0_rules_stirs), .ref a_p0_rules_need, .ref a_p0_rules_kind, .ref a_p0_rules_first, .ref a_p0_rules_second, .ref a_p0_rules_after])), (a_p0_rules_after, .inl (G 1, 35, .inl (zA v_p0_rules_after)))] sz) := by
  refine Met.ofW (cc := cX11_stir) (maxL := 3) (ret := (some .int)) (by decide) rfl ?_
  intro p e s m args below meth c s₁ B hml hv
  obtain ⟨rfl, hsz, hP, hK, hD0⟩ := hv
  have hx := B.exec
  have hb := B.bytes
  have hr := B.returns
  have hts := atoms_spec (ws := wsX11_stir) B.pre
  have hown : s.vm.findClass RX11 = some m.cls := findClass_of_methodNamed B.named
  have hlocks := B.notSynchronized
  subst hsz
  have hD := hD0.self (sz := s.heap.size)
  generalize hAe : va_A [(a_p0, .inr (11, [.ref a_p0_rules, .ref a_p0_state, .ref a_p0_tape, .ref a_p0_reader, .ref a_p0_kitchen, .ref a_p0_luck, .ref a_p0_plans, .ref a_p0_coups, .ref a_p0_past, .ref a_p0_fairDays, .ref a_p0_images, .ref a_p0_imageHeld, .ref a_p0_sheets, .int (Int32.ofInt i_p0_latestFault), .int (Int32.ofInt i_p0_latestTear)])), (a_p0_rules, .inr (6, [.int (Int32.ofInt i_p0_rules_seats), .int (Int32.ofInt i_p0_rules_stirs), .ref a_p0_rules_need, .ref a_p0_rules_kind, .ref a_p0_rules_first, .ref a_p0_rules_second, .ref a_p0_rules_after])), (a_p0_rules_after, .inl (G 1, 35, .inl (zA v_p0_rules_after)))] s.heap.size = A at hD ⊢
  have hA : ∀ q : Nat, s.heap.size ≤ q → A q := fun q h => by rw [← hAe]; exact Or.inr h
  clear hAe hD0
  have hS : va_S A s.heap s.heap [] := va_S.rf
  have hl := lv_entry ([.ref a_p0, .int (Int32.ofInt x1), .int (Int32.ofInt x2)]) (n := 3) (Nat.le_of_ble_eq_true rfl)
  rw [lg_entry_eq]
  generalize (lg_sl ([.ref a_p0, .int (Int32.ofInt x1), .int (Int32.ofInt x2)]) ++ List.replicate (3 - (lg_sl ([.ref a_p0, .int (Int32.ofInt x1), .int (Int32.ofInt x2)])).length) Slot.unset).toArray = ls at hl ⊢
  have hl : lv_has ls 3 [(0, .ref a_p0), (1, .int (Int32.ofInt x1)), (2, .int (Int32.ofInt x2))] := hl
  refine W_nameQ (fun Q hQ => ?_)
  obtain ⟨H, hH⟩ : ∃ H, H = s.heap := ⟨_, rfl⟩
  replace hS : va_S A s.heap H [] := by rw [hH]; exact hS
  replace hP : va_P D vwCl [(a_p0, .inr (11, [.ref a_p0_rules, .ref a_p0_state, .ref a_p0_tape, .ref a_p0_reader, .ref a_p0_kitchen, .ref a_p0_luck, .ref a_p0_plans, .ref a_p0_coups, .ref a_p0_past, .ref a_p0_fairDays, .ref a_p0_images, .ref a_p0_imageHeld, .ref a_p0_sheets, .int (Int32.ofInt i_p0_latestFault), .int (Int32.ofInt i_p0_latestTear)])), (a_p0_rules, .inr (6, [.int (Int32.ofInt i_p0_rules_seats), .int (Int32.ofInt i_p0_rules_stirs), .ref a_p0_rules_need, .ref a_p0_rules_kind, .ref a_p0_rules_first, .ref a_p0_rules_second, .ref a_p0_rules_after])), (a_p0_rules_after, .inl (G 1, 35, .inl (zA v_p0_rules_after)))] H := by rw [hH]; exact hP
  rw [← hH]
  clear hH
  unfold f_X11_stir at hf
  refine lv_aload_n hx hb dX11_stir_0 rfl (lv_at hl 0 rfl) ?_
  refine va_get (D := D) (ci := 11) (v := .ref a_p0_rules) (C := RX11) (T := TX11) (N := 15) hx hb hts inX11_stir_X11 hown hK hP 0 rfl rfl 0 (by decide) (hts _ mwX11_stir_1) (fun _ h9 => h9) rfl dX11_stir_1 ?_
  refine lv_iload_n hx hb dX11_stir_4 rfl (lv_at hl 1 rfl) ?_
  have hq := bd1_s hf
  clear hf
  obtain ⟨z1, hcall, hf⟩ := hq
  refine gnI (va_runV (As := [.int (Int32.ofInt x1)]) (rest := []) ⟨hx, hb, hml, hown, hts⟩ (c_X6_hasStir (l := l) (D := D) (G := G) (sz := H.size) (a_p0 := a_p0_rules) (a_p0_need := a_p0_rules_need) (a_p0_kind := a_p0_rules_kind) (a_p0_first := a_p0_rules_first) (a_p0_second := a_p0_rules_second) (a_p0_after := a_p0_rules_after) (i_p0_seats := i_p0_rules_seats) (i_p0_stirs := i_p0_rules_stirs) (x1 := x1) (r := z1) (hf := hcall)) (cwV 1 hts gX11_stir_X6_hasStir rfl rfl rfl hdV_yX6_hasStir_RX6 ⟨Nat.le_of_ble_eq_true rfl, Nat.le_of_ble_eq_true rfl⟩) (preG_V (ci := 6) (q := (RX6, TX6, 7)) (hP.sub [1] rfl) (hD.sub [1] rfl rfl) hK rfl rfl) rfl rfl hl.1 rfl (lv_room (Nat.le_of_ble_eq_true rfl)) dX11_stir_5 ⟨Nat.le_of_ble_eq_true rfl, Nat.le_of_ble_eq_true rfl⟩) hP hD hS hA [1] rfl (fun H locs hP hD hS => ?_)
  clear hcall
  have hr1 := ck_c hf
  replace hf := ck_r hf
  refine lv_if_eq (tgt := 34) hx hb dX11_stir_8 (by decide) (fun cc => ?_) (fun cc => ?_)
  ·
    replace hf := ite_t ((z_eq0 hr1).mp cc) hf
    clear cc
    refine lv_iconst (v := Int32.ofInt (-1 : Int)) hx hb dX11_stir_34 (by decide) ?_
    obtain rfl := ou1 hf
    rw [hQ]
    exact W.iret hx hb hr (fun t ht hW => ⟨⟨_, (), rfl, rfl, by rw [ht]; exact hP, va_K.moved hW.alike hK, hD⟩, hS.F ht⟩) hS.2.2 dX11_stir_35
  ·
    replace hf := ite_f (fun h9 => cc ((z_eq0 hr1).mpr h9)) hf
    clear cc
    refine lv_aload_n hx hb dX11_stir_11 rfl (lv_at hl 0 rfl) ?_
    refine va_get (D := D) (ci := 11) (v := .ref a_p0_rules) (C := RX11) (T := TX11) (N := 15) hx hb hts inX11_stir_X11 hown hK hP 0 rfl rfl 0 (by decide) (hts _ mwX11_stir_1) (fun _ h9 => h9) rfl dX11_stir_12 ?_
    refine lv_iload_n hx hb dX11_stir_15 rfl (lv_at hl 2 rfl) ?_
    have hq := bd1_s hf
    clear hf
    obtain ⟨z3, hcall, hf⟩ := hq
    refine gnI (va_runV (As := [.int (Int32.ofInt x2)]) (rest := []) ⟨hx, hb, hml, hown, hts⟩ (c_X6_hasSeat (l := l) (D := D) (G := G) (sz := H.size) (a_p0 := a_p0_rules) (a_p0_need := a_p0_rules_need) (a_p0_kind := a_p0_rules_kind) (a_p0_first := a_p0_rules_first) (a_p0_second := a_p0_rules_second) (a_p0_after := a_p0_rules_after) (i_p0_seats := i_p0_rules_seats) (i_p0_stirs := i_p0_rules_stirs) (x1 := x2) (r := z3) (hf := hcall)) (cwV 1 hts gX11_stir_X6_hasSeat rfl rfl rfl hdV_yX6_hasSeat_RX6 ⟨Nat.le_of_ble_eq_true rfl, Nat.le_of_ble_eq_true rfl⟩) (preG_V (ci := 6) (q := (RX6, TX6, 7)) (hP.sub [1] rfl) (hD.sub [1] rfl rfl) hK rfl rfl) rfl rfl hl.1 rfl (lv_room (Nat.le_of_ble_eq_true rfl)) dX11_stir_16 ⟨Nat.le_of_ble_eq_true rfl, Nat.le_of_ble_eq_true rfl⟩) hP hD hS hA [1] rfl (fun H locs hP hD hS => ?_)
    clear hcall
    have hr3 := ck_c hf
    replace hf := ck_r hf
    refine lv_if_eq (tgt := 34) hx hb dX11_stir_19 (by decide) (fun cc => ?_) (fun cc => ?_)
    ·
      replace hf := ite_t ((z_eq0 hr3).mp cc) hf
      clear cc
      refine lv_iconst (v := Int32.ofInt (-1 : Int)) hx hb dX11_stir_34 (by decide) ?_
      obtain rfl := ou1 hf
      rw [hQ]
      exact W.iret hx hb hr (fun t ht hW => ⟨⟨_, (), rfl, rfl, by rw [ht]; exact hP, va_K.moved hW.alike hK, hD⟩, hS.F ht⟩) hS.2.2 dX11_stir_35
    ·
      replace hf := ite_f (fun h9 => cc ((z_eq0 hr3).mpr h9)) hf
      clear cc
      refine lv_aload_n hx hb dX11_stir_22 rfl (lv_at hl 0 rfl) ?_
      refine va_get (D := D) (ci := 11) (v := .ref a_p0_rules) (C := RX11) (T := TX11) (N := 15) hx hb hts inX11_stir_X11 hown hK hP 0 rfl rfl 0 (by decide) (hts _ mwX11_stir_1) (fun _ h9 => h9) rfl dX11_stir_23 ?_
      refine lv_iload_n hx hb dX11_stir_26 rfl (lv_at hl 1 rfl) ?_
      refine lv_iload_n hx hb dX11_stir_27 rfl (lv_at hl 2 rfl) ?_
      have hq := bd1_s hf
      clear hf
      obtain ⟨z5, hcall, hf⟩ := hq
      refine gnI (va_runV (As := [.int (Int32.ofInt x1), .int (Int32.ofInt x2)]) (rest := []) ⟨hx, hb, hml, hown, hts⟩ (c_X6_placeAfter (l := l) (D := D) (G := G) (sz := H.size) (a_p0 := a_p0_rules) (a_p0_need := a_p0_rules_need) (a_p0_kind := a_p0_rules_kind) (a_p0_first := a_p0_rules_first) (a_p0_second := a_p0_rules_second) (a_p0_after := a_p0_rules_after) (i_p0_seats := i_p0_rules_seats) (i_p0_stirs := i_p0_rules_stirs) (v_p0_after := v_p0_rules_after) (x1 := x1) (x2 := x2) (r := z5) (hf := hcall)) (cwV 2 hts gX11_stir_X6_placeAfter rfl rfl rfl hdV_yX6_placeAfter_RX6 ⟨Nat.le_of_ble_eq_true rfl, Nat.le_of_ble_eq_true rfl⟩) (preG_V (ci := 6) (q := (RX6, TX6, 7)) (hP.sub [1, 2] rfl) (hD.sub [1, 2] rfl rfl) hK rfl rfl) rfl rfl hl.1 rfl (lv_room (Nat.le_of_ble_eq_true rfl)) dX11_stir_28 ⟨Nat.le_of_ble_eq_true rfl, Nat.le_of_ble_eq_true rfl⟩) hP hD hS hA [1, 2] rfl (fun H locs hP hD hS => ?_)
      clear hcall
      refine lv_goto (tgt := 35) hx hb dX11_stir_31 (by decide) ?_
      obtain rfl := ou1 hf
      rw [hQ]
      exact W.iret hx hb hr (fun t ht hW => ⟨⟨_, (), rfl, rfl, by rw [ht]; exact hP, va_K.moved hW.alike hK, hD⟩, hS.F ht⟩) hS.2.2 dX11_stir_35

noncomputable def f_X11_befriend (i_p0_rules_seats : Int) (v_p0_state_friends : (Int → Int)) (x1 : Int) (x2 : Int) (x3 : Int) : Option (Int × (Int → Int)) := (bd1 (f_X6_hasSeat i_p0_rules_seats x1) (fun (z1 : Int) => (ck (z_r32 z1) (if z1 = (0 : Int) then (some ((-1 : Int), v_p0_state_friends)) else (bd1 (f_X6_hasSeat i_p0_rules_seats x2) (fun (z3 : Int) => (ck (z_r32 z3) (if z3 = (0 : Int) then (some ((-1 : Int), v_p0_state_friends)) else (ck (z_r32 x1) (ck (z_r32 x2) (if x1 = x2 then (some ((-1 : Int), v_p0_state_friends)) else (bd1 (f_X8_isFriend v_p0_state_friends x1 x2) (fun (z7 : Int) => (ck (z_r32 z7) (jn (fun (z9 : Int) => (bnd z9 (fun (z11 : Int) => (bd1 (f_X8_setFriend v_p0_state_friends x1 x2 x3) (fun (w12 : (Int → Int)) => (some (z11, w12))))))) (fun (J10 : Int → Option (Int × (Int → Int))) => (if z7 = (0 : Int) then (J10 (0 : Int)) else (J10 (1 : Int)))))))))))))))))))
abbrev rm_X11_befriend : Room := { frames := 1, cells := 0, slots := 0, locals := 23 }
theorem inX11_befriend_X11 : ∀ w ∈ wsX110, w ∈ wsX11_befriend := by first | exact fun w h => List.mem_cons_of_mem _ (List.mem_append_left _ (List.mem_append_left _ (List.mem_append_right _ h))) | decide +kernel
theorem mwX11_befriend_1 : Cond.fieldLink RX11 10 "LadleKings" "rules" "LLadleKings$Rules;" ∈ wsX11_befriend := by first | exact List.mem_of_getElem? (i := 1) rfl | decide +kernel
theorem mwX11_befriend_2 : Cond.fieldLink RX11 19 "LadleKings" "state" "LLadleKings$State;" ∈ wsX11_befriend := by first | exact List.mem_of_getElem? (i := 2) rfl | decide +kernel
set_option maxHeartbeats 8000000 in
set_option maxRecDepth 100000 in
theorem c_X11_befriend (l : Launch) (D : va_G) (G : Nat → ClassId) (sz : Nat) (a_p0 : Nat) (a_p0_rules : Nat) (a_p0_state : Nat) (a_p0_tape : Nat) (a_p0_reader : Nat) (a_p0_kitchen : Nat) (a_p0_luck : Nat) (a_p0_plans : Nat) (a_p0_coups : Nat) (a_p0_past : Nat) (a_p0_fairDays : Nat) (a_p0_images : Nat) (a_p0_imageHeld : Nat) (a_p0_sheets : Nat) (a_p0_rules_need : Nat) (a_p0_rules_kind : Nat) (a_p0_rules_first : Nat) (a_p0_rules_second : Nat) (a_p0_rules_after : Nat) (a_p0_state_pieces : Nat) (a_p0_state_friends : Nat) (a_p0_state_spoons : Nat) (a_p0_state_eaten : Nat) (a_p0_state_seen : Nat) (i_p0_latestFault : Int) (i_p0_latestTear : Int) (i_p0_rules_seats : Int) (i_p0_rules_stirs : Int) (i_p0_state_seenDays : Int) (i_p0_state_bone : Int) (i_p0_state_king : Int) (i_p0_state_days : Int) (v_p0_state_friends : (Int → Int)) (x1 : Int) (x2 : Int) (x3 : Int) (r : Int) (o_v_p0_state_friends : (Int → Int)) (hf : f_X11_befriend i_p0_rules_seats v_p0_state_friends x1 x2 x3 = some (r, o_v_p0_state_friends)) : Met l yX11_befriend wsX11_befriend rm_X11_befriend (pcG D G [.ref a_p0, .int (Int32.ofInt x1), .int (Int32.ofInt x2), .int (Int32.ofInt x3)] sz [(a_p0, .inr (11, [.ref a_p0_rules, .ref a_p0_state, .ref a_p0_tape, .ref a_p0_reader, .ref a_p0_kitchen, .ref a_p0_luck, .ref a_p0_plans, .ref a_p0_coups, .ref a_p0_past, .ref a_p0_fairDays, .ref a_p0_images, .ref a_p0_imageHeld, .ref a_p0_sheets, .int (Int32.ofInt i_p0_latestFault), .int (Int32.ofInt i_p0_latestTear)])), (a_p0_rules, .inr (6, [.int (Int32.ofInt i_p0_rules_seats), .int (Int32.ofInt i_p0_rules_stirs), .ref a_p0_rules_need, .ref a_p0_rules_kind, .ref a_p0_rules_first, .ref a_p0_rules_second, .ref a_p0_rules_after])), (a_p0_state, .inr (8, [.ref a_p0_state_pieces, .ref a_p0_state_friends, .ref a_p0_state_spoons, .ref a_p0_state_eaten, .ref a_p0_state_seen, .int (Int32.ofInt i_p0_state_seenDays), .int (Int32.ofInt i_p0_state_bone), .int (Int32.ofInt i_p0_state_king), .int (Int32.ofInt i_p0_state_days)])), (a_p0_state_friends, .inl (G 1, 7, .inl (zA v_p0_state_friends)))]) (qcI D G (Int32.ofInt r) [(a_p0, .inr (11, [.ref a_p0_rules, .ref a_p0_state, .ref a_p0_tape, .ref a_p0_reader, .ref a_p0_kitchen, .ref a_p0_luck, .ref a_p0_plans, .ref a_p0_coups, .ref a_p0_past, .ref a_p0_fairDays, .ref a_p0_images, .ref a_p0_imageHeld, .ref a_p0_sheets, .int (Int32.ofInt i_p0_latestFault), .int (Int32.ofInt i_p0_latestTear)])), (a_p0_rules, .inr (6, [.int (Int32.ofInt i_p0_rules_seats), .int (Int32.ofInt i_p0_rules_stirs), .ref a_p0_rules_need, .ref a_p0_rules_kind, .ref a_p0_rules_first, .ref a_p0_rules_second, .ref a_p0_rules_after])), (a_p0_state, .inr (8, [.ref a_p0_state_pieces, .ref a_p0_state_friends, .ref a_p0_state_spoons, .ref a_p0_state_eaten, .ref a_p0_state_seen, .int (Int32.ofInt i_p0_state_seenDays), .int (Int32.ofInt i_p0_state_bone), .int (Int32.ofInt i_p0_state_king), .int (Int32.ofInt i_p0_state_days)])), (a_p0_state_friends, .inl (G 1, 7, .inl (zA o_v_p0_state_friends)))] (va_A [(a_p0, .inr (11, [.ref a_p0_rules, .ref a_p0_state, .ref a_p0_tape, .ref a_p0_reader, .ref a_p0_kitchen, .ref a_p0_luck, .ref a_p0_plans, .ref a_p0_coups, .ref a_p0_past, .ref a_p0_fairDays, .ref a_p0_images, .ref a_p0_imageHeld, .ref a_p0_sheets, .int (Int32.ofInt i_p0_latestFault), .int (Int32.ofInt i_p0_latestTear)])), (a_p0_rules, .inr (6, [.int (Int32.ofInt i_p0_rules_seats), .int (Int32.ofInt i_p0_rules_stirs), .ref a_p0_rules_need, .ref a_p0_rules_kind, .ref a_p0_rules_first, .ref a_p0_rules_second, .ref a_p0_rules_after])), (a_p0_state, .inr (8, [.ref a_p0_state_pieces, .ref a_p0_state_friends, .ref a_p0_state_spoons, .ref a_p0_state_eaten, .ref a_p0_state_seen, .int (Int32.ofInt i_p0_state_seenDays), .int (Int32.ofInt i_p0_state_bone), .int (Int32.ofInt i_p0_state_king), .int (Int32.ofInt i_p0_state_days)])), (a_p0_state_friends, .inl (G 1, 7, .inl (zA v_p0_state_friends)))] sz)) 0 0 (va_A [(a_p0, .inr (11, [.ref a_p0_rules, .ref a_p0_state, .ref a_p0_tape, .ref a_p0_reader, .ref a_p0_kitchen, .ref a_p0_luck, .ref a_p0_plans, .ref a_p0_coups, .ref a_p0_past, .ref a_p0_fairDays, .ref a_p0_images, .ref a_p0_imageHeld, .ref a_p0_sheets, .int (Int32.ofInt i_p0_latestFault), .int (Int32.ofInt i_p0_latestTear)])), (a_p0_rules, .inr (6, [.int (Int32.ofInt i_p0_rules_seats), .int (Int32.ofInt i_p0_rules_stirs), .ref a_p0_rules_need, .ref a_p0_rules_kind, .ref a_p0_rules_first, .ref a_p0_rules_second, .ref a_p0_rules_after])), (a_p0_state, .inr (8, [.ref a_p0_state_pieces, .ref a_p0_state_friends, .ref a_p0_state_spoons, .ref a_p0_state_eaten, .ref a_p0_state_seen, .int (Int32.ofInt i_p0_state_seenDays), .int (Int32.ofInt i_p0_state_bone), .int (Int32.ofInt i_p0_state_king), .int (Int32.ofInt i_p0_state_days)])), (a_p0_state_friends, .inl (G 1, 7, .inl (zA v_p0_state_friends)))] sz) := by
  refine Met.ofW (cc := cX11_befriend) (maxL := 5) (ret := (some .int)) (by decide) rfl ?_
  intro p e s m args below meth c s₁ B hml hv
  obtain ⟨rfl, hsz, hP, hK, hD0⟩ := hv
  have hx := B.exec
  have hb := B.bytes
  have hr := B.returns
  have hts := atoms_spec (ws := wsX11_befriend) B.pre
  have hown : s.vm.findClass RX11 = some m.cls := findClass_of_methodNamed B.named
  have hlocks := B.notSynchronized
  subst hsz
  have hD := hD0.self (sz := s.heap.size)
  generalize hAe : va_A [(a_p0, .inr (11, [.ref a_p0_rules, .ref a_p0_state, .ref a_p0_tape, .ref a_p0_reader, .ref a_p0_kitchen, .ref a_p0_luck, .ref a_p0_plans, .ref a_p0_coups, .ref a_p0_past, .ref a_p0_fairDays, .ref a_p0_images, .ref a_p0_imageHeld, .ref a_p0_sheets, .int (Int32.ofInt i_p0_latestFault), .int (Int32.ofInt i_p0_latestTear)])), (a_p0_rules, .inr (6, [.int (Int32.ofInt i_p0_rules_seats), .int (Int32.ofInt i_p0_rules_stirs), .ref a_p0_rules_need, .ref a_p0_rules_kind, .ref a_p0_rules_first, .ref a_p0_rules_second, .ref a_p0_rules_after])), (a_p0_state, .inr (8, [.ref a_p0_state_pieces, .ref a_p0_state_friends, .ref a_p0_state_spoons, .ref a_p0_state_eaten, .ref a_p0_state_seen, .int (Int32.ofInt i_p0_state_seenDays), .int (Int32.ofInt i_p0_state_bone), .int (Int32.ofInt i_p0_state_king), .int (Int32.ofInt i_p0_state_days)])), (a_p0_state_friends, .inl (G 1, 7, .inl (zA v_p0_state_friends)))] s.heap.size = A at hD ⊢
  have hA : ∀ q : Nat, s.heap.size ≤ q → A q := fun q h => by rw [← hAe]; exact Or.inr h
  clear hAe hD0
  have hS : va_S A s.heap s.heap [] := va_S.rf
  have hl := lv_entry ([.ref a_p0, .int (Int32.ofInt x1), .int (Int32.ofInt x2), .int (Int32.ofInt x3)]) (n := 5) (Nat.le_of_ble_eq_true rfl)
  rw [lg_entry_eq]
  generalize (lg_sl ([.ref a_p0, .int (Int32.ofInt x1), .int (Int32.ofInt x2), .int (Int32.ofInt x3)]) ++ List.replicate (5 - (lg_sl ([.ref a_p0, .int (Int32.ofInt x1), .int (Int32.ofInt x2), .int (Int32.ofInt x3)])).length) Slot.unset).toArray = ls at hl ⊢
  have hl : lv_has ls 5 [(0, .ref a_p0), (1, .int (Int32.ofInt x1)), (2, .int (Int32.ofInt x2)), (3, .int (Int32.ofInt x3))] := hl
  refine W_nameQ (fun Q hQ => ?_)
  obtain ⟨H, hH⟩ : ∃ H, H = s.heap := ⟨_, rfl⟩
  replace hS : va_S A s.heap H [] := by rw [hH]; exact hS
  replace hP : va_P D vwCl [(a_p0, .inr (11, [.ref a_p0_rules, .ref a_p0_state, .ref a_p0_tape, .ref a_p0_reader, .ref a_p0_kitchen, .ref a_p0_luck, .ref a_p0_plans, .ref a_p0_coups, .ref a_p0_past, .ref a_p0_fairDays, .ref a_p0_images, .ref a_p0_imageHeld, .ref a_p0_sheets, .int (Int32.ofInt i_p0_latestFault), .int (Int32.ofInt i_p0_latestTear)])), (a_p0_rules, .inr (6, [.int (Int32.ofInt i_p0_rules_seats), .int (Int32.ofInt i_p0_rules_stirs), .ref a_p0_rules_need, .ref a_p0_rules_kind, .ref a_p0_rules_first, .ref a_p0_rules_second, .ref a_p0_rules_after])), (a_p0_state, .inr (8, [.ref a_p0_state_pieces, .ref a_p0_state_friends, .ref a_p0_state_spoons, .ref a_p0_state_eaten, .ref a_p0_state_seen, .int (Int32.ofInt i_p0_state_seenDays), .int (Int32.ofInt i_p0_state_bone), .int (Int32.ofInt i_p0_state_king), .int (Int32.ofInt i_p0_state_days)])), (a_p0_state_friends, .inl (G 1, 7, .inl (zA v_p0_state_friends)))] H := by rw [hH]; exact hP
  rw [← hH]
  clear hH
  unfold f_X11_befriend at hf
  refine lv_aload_n hx hb dX11_befriend_0 rfl (lv_at hl 0 rfl) ?_
  refine va_get (D := D) (ci := 11) (v := .ref a_p0_rules) (C := RX11) (T := TX11) (N := 15) hx hb hts inX11_befriend_X11 hown hK hP 0 rfl rfl 0 (by decide) (hts _ mwX11_befriend_1) (fun _ h9 => h9) rfl dX11_befriend_1 ?_
  refine lv_iload_n hx hb dX11_befriend_4 rfl (lv_at hl 1 rfl) ?_
  have hq := bd1_s hf
  clear hf
  obtain ⟨z1, hcall, hf⟩ := hq
  refine gnI (va_runV (As := [.int (Int32.ofInt x1)]) (rest := []) ⟨hx, hb, hml, hown, hts⟩ (c_X6_hasSeat (l := l) (D := D) (G := G) (sz := H.size) (a_p0 := a_p0_rules) (a_p0_need := a_p0_rules_need) (a_p0_kind := a_p0_rules_kind) (a_p0_first := a_p0_rules_first) (a_p0_second := a_p0_rules_second) (a_p0_after := a_p0_rules_after) (i_p0_seats := i_p0_rules_seats) (i_p0_stirs := i_p0_rules_stirs) (x1 := x1) (r := z1) (hf := hcall)) (cwV 1 hts gX11_befriend_X6_hasSeat rfl rfl rfl hdV_yX6_hasSeat_RX6 ⟨Nat.le_of_ble_eq_true rfl, Nat.le_of_ble_eq_true rfl⟩) (preG_V (ci := 6) (q := (RX6, TX6, 7)) (hP.sub [1] rfl) (hD.sub [1] rfl rfl) hK rfl rfl) rfl rfl hl.1 rfl (lv_room (Nat.le_of_ble_eq_true rfl)) dX11_befriend_5 ⟨Nat.le_of_ble_eq_true rfl, Nat.le_of_ble_eq_true rfl⟩) hP hD hS hA [1] rfl (fun H locs hP hD hS => ?_)
  clear hcall
  have hr1 := ck_c hf
  replace hf := ck_r hf
  refine lv_if_eq (tgt := 27) hx hb dX11_befriend_8 (by decide) (fun cc => ?_) (fun cc => ?_)
  ·
    replace hf := ite_t ((z_eq0 hr1).mp cc) hf
    clear cc
    refine lv_iconst (v := Int32.ofInt (-1 : Int)) hx hb dX11_befriend_27 (by decide) ?_
    obtain ⟨rfl, rfl⟩ := ou2 hf
    rw [hQ]
    exact W.iret hx hb hr (fun t ht hW => ⟨⟨_, (), rfl, rfl, by rw [ht]; exact hP, va_K.moved hW.alike hK, hD⟩, hS.F ht⟩) hS.2.2 dX11_befriend_28
  ·
    replace hf := ite_f (fun h9 => cc ((z_eq0 hr1).mpr h9)) hf
    clear cc
    refine lv_aload_n hx hb dX11_befriend_11 rfl (lv_at hl 0 rfl) ?_
    refine va_get (D := D) (ci := 11) (v := .ref a_p0_rules) (C := RX11) (T := TX11) (N := 15) hx hb hts inX11_befriend_X11 hown hK hP 0 rfl rfl 0 (by decide) (hts _ mwX11_befriend_1) (fun _ h9 => h9) rfl dX11_befriend_12 ?_
    refine lv_iload_n hx hb dX11_befriend_15 rfl (lv_at hl 2 rfl) ?_
    have hq := bd1_s hf
    clear hf
    obtain ⟨z3, hcall, hf⟩ := hq
    refine gnI (va_runV (As := [.int (Int32.ofInt x2)]) (rest := []) ⟨hx, hb, hml, hown, hts⟩ (c_X6_hasSeat (l := l) (D := D) (G := G) (sz := H.size) (a_p0 := a_p0_rules) (a_p0_need := a_p0_rules_need) (a_p0_kind := a_p0_rules_kind) (a_p0_first := a_p0_rules_first) (a_p0_second := a_p0_rules_second) (a_p0_after := a_p0_rules_after) (i_p0_seats := i_p0_rules_seats) (i_p0_stirs := i_p0_rules_stirs) (x1 := x2) (r := z3) (hf := hcall)) (cwV 1 hts gX11_befriend_X6_hasSeat rfl rfl rfl hdV_yX6_hasSeat_RX6 ⟨Nat.le_of_ble_eq_true rfl, Nat.le_of_ble_eq_true rfl⟩) (preG_V (ci := 6) (q := (RX6, TX6, 7)) (hP.sub [1] rfl) (hD.sub [1] rfl rfl) hK rfl rfl) rfl rfl hl.1 rfl (lv_room (Nat.le_of_ble_eq_true rfl)) dX11_befriend_16 ⟨Nat.le_of_ble_eq_true rfl, Nat.le_of_ble_eq_true rfl⟩) hP hD hS hA [1] rfl (fun H locs hP hD hS => ?_)
    clear hcall
    have hr3 := ck_c hf
    replace hf := ck_r hf
    refine lv_if_eq (tgt := 27) hx hb dX11_befriend_19 (by decide) (fun cc => ?_) (fun cc => ?_)
    ·
      replace hf := ite_t ((z_eq0 hr3).mp cc) hf
      clear cc
      refine lv_iconst (v := Int32.ofInt (-1 : Int)) hx hb dX11_befriend_27 (by decide) ?_
      obtain ⟨rfl, rfl⟩ := ou2 hf
      rw [hQ]
      exact W.iret hx hb hr (fun t ht hW => ⟨⟨_, (), rfl, rfl, by rw [ht]; exact hP, va_K.moved hW.alike hK, hD⟩, hS.F ht⟩) hS.2.2 dX11_befriend_28
    ·
      replace hf := ite_f (fun h9 => cc ((z_eq0 hr3).mpr h9)) hf
      clear cc
      refine lv_iload_n hx hb dX11_befriend_22 rfl (lv_at hl 1 rfl) ?_
      refine lv_iload_n hx hb dX11_befriend_23 rfl (lv_at hl 2 rfl) ?_
      have hr4 := ck_c hf
      replace hf := ck_r hf
      have hr5 := ck_c hf
      replace hf := ck_r hf
      refine lv_icmp_ne (tgt := 29) hx hb dX11_befriend_24 (by decide) (fun cc => ?_) (fun cc => ?_)
      ·
        replace hf := ite_f (fun h9 => cc ((z_eq hr4 hr5).mpr h9)) hf
        clear cc
        refine lv_aload_n hx hb dX11_befriend_29 rfl (lv_at hl 0 rfl) ?_
        refine va_get (D := D) (ci := 11) (v := .ref a_p0_state) (C := RX11) (T := TX11) (N := 15) hx hb hts inX11_befriend_X11 hown hK hP 0 rfl rfl 1 (by decide) (hts _ mwX11_befriend_2) (fun _ h9 => h9) rfl dX11_befriend_30 ?_
        refine lv_iload_n hx hb dX11_befriend_33 rfl (lv_at hl 1 rfl) ?_
        refine lv_iload_n hx hb dX11_befriend_34 rfl (lv_at hl 2 rfl) ?_
        have hq := bd1_s hf
        clear hf
        obtain ⟨z7, hcall, hf⟩ := hq
        refine gnI (va_runV (As := [.int (Int32.ofInt x1), .int (Int32.ofInt x2)]) (rest := []) ⟨hx, hb, hml, hown, hts⟩ (c_X8_isFriend (l := l) (D := D) (G := G) (sz := H.size) (a_p0 := a_p0_state) (a_p0_pieces := a_p0_state_pieces) (a_p0_friends := a_p0_state_friends) (a_p0_spoons := a_p0_state_spoons) (a_p0_eaten := a_p0_state_eaten) (a_p0_seen := a_p0_state_seen) (i_p0_seenDays := i_p0_state_seenDays) (i_p0_bone := i_p0_state_bone) (i_p0_king := i_p0_state_king) (i_p0_days := i_p0_state_days) (v_p0_friends := v_p0_state_friends) (x1 := x1) (x2 := x2) (r := z7) (hf := hcall)) (cwV 2 hts gX11_befriend_X8_isFriend rfl rfl rfl hdV_yX8_isFriend_RX8 ⟨Nat.le_of_ble_eq_true rfl, Nat.le_of_ble_eq_true rfl⟩) (preG_V (ci := 8) (q := (RX8, TX8, 9)) (hP.sub [2, 3] rfl) (hD.sub [2, 3] rfl rfl) hK rfl rfl) rfl rfl hl.1 rfl (lv_room (Nat.le_of_ble_eq_true rfl)) dX11_befriend_35 ⟨Nat.le_of_ble_eq_true rfl, Nat.le_of_ble_eq_true rfl⟩) hP hD hS hA [2, 3] rfl (fun H locs hP hD hS => ?_)
        clear hcall
        have hr7 := ck_c hf
        replace hf := ck_r hf
        have hq := jn_i hf
        clear hf
        obtain ⟨J10, eJ10, hf⟩ := hq
        have hJ10 : ∀ (z9 : Int) (ls : Array Slot) (H : Heap) (locs : List Loc), lv_has ls 5 [(0, .ref a_p0), (1, .int (Int32.ofInt x1)), (2, .int (Int32.ofInt x2)), (3, .int (Int32.ofInt x3))] → va_P D vwCl [(a_p0, .inr (11, [.ref a_p0_rules, .ref a_p0_state, .ref a_p0_tape, .ref a_p0_reader, .ref a_p0_kitchen, .ref a_p0_luck, .ref a_p0_plans, .ref a_p0_coups, .ref a_p0_past, .ref a_p0_fairDays, .ref a_p0_images, .ref a_p0_imageHeld, .ref a_p0_sheets, .int (Int32.ofInt i_p0_latestFault), .int (Int32.ofInt i_p0_latestTear)])), (a_p0_rules, .inr (6, [.int (Int32.ofInt i_p0_rules_seats), .int (Int32.ofInt i_p0_rules_stirs), .ref a_p0_rules_need, .ref a_p0_rules_kind, .ref a_p0_rules_first, .ref a_p0_rules_second, .ref a_p0_rules_after])), (a_p0_state, .inr (8, [.ref a_p0_state_pieces, .ref a_p0_state_friends, .ref a_p0_state_spoons, .ref a_p0_state_eaten, .ref a_p0_state_seen, .int (Int32.ofInt i_p0_state_seenDays), .int (Int32.ofInt i_p0_state_bone), .int (Int32.ofInt i_p0_state_king), .int (Int32.ofInt i_p0_state_days)])), (a_p0_state_friends, .inl (G 1, 7, .inl (zA v_p0_state_friends)))] H → va_D A [(a_p0, .inr (11, [.ref a_p0_rules, .ref a_p0_state, .ref a_p0_tape, .ref a_p0_reader, .ref a_p0_kitchen, .ref a_p0_luck, .ref a_p0_plans, .ref a_p0_coups, .ref a_p0_past, .ref a_p0_fairDays, .ref a_p0_images, .ref a_p0_imageHeld, .ref a_p0_sheets, .int (Int32.ofInt i_p0_latestFault), .int (Int32.ofInt i_p0_latestTear)])), (a_p0_rules, .inr (6, [.int (Int32.ofInt i_p0_rules_seats), .int (Int32.ofInt i_p0_rules_stirs), .ref a_p0_rules_need, .ref a_p0_rules_kind, .ref a_p0_rules_first, .ref a_p0_rules_second, .ref a_p0_rules_after])), (a_p0_state, .inr (8, [.ref a_p0_state_pieces, .ref a_p0_state_friends, .ref a_p0_state_spoons, .ref a_p0_state_eaten, .ref a_p0_state_seen, .int (Int32.ofInt i_p0_state_seenDays), .int (Int32.ofInt i_p0_state_bone), .int (Int32.ofInt i_p0_state_king), .int (Int32.ofInt i_p0_state_days)])), (a_p0_state_friends, .inl (G 1, 7, .inl (zA v_p0_state_friends)))] → va_S A s.heap H locs → J10 z9 = some (r, o_v_p0_state_friends) → W p l e rm_X11_befriend s m ([.ref a_p0, .int (Int32.ofInt x1), .int (Int32.ofInt x2), .int (Int32.ofInt x3)] : List Value).toArray below meth c H locs 0 0 Q (F0 m 46 ls [.int (Int32.ofInt z9)]) := by
          clear hf hl hP hD hS
          intro z9 ls H locs hl hP hD hS hf
          replace hf := jn1_s eJ10 hf
          refine z_topi (fun z11 ez => ?_)
          replace hf := bnd_s hf ez
          clear ez
          refine lv_istore (lv' := [(4, .int (Int32.ofInt z11)), (0, .ref a_p0), (1, .int (Int32.ofInt x1)), (2, .int (Int32.ofInt x2)), (3, .int (Int32.ofInt x3))]) hx hb dX11_befriend_46 hl (by decide) rfl (fun ls hl => ?_)
          refine lv_aload_n hx hb dX11_befriend_48 rfl (lv_at hl 1 rfl) ?_
          refine va_get (D := D) (ci := 11) (v := .ref a_p0_state) (C := RX11) (T := TX11) (N := 15) hx hb hts inX11_befriend_X11 hown hK hP 0 rfl rfl 1 (by decide) (hts _ mwX11_befriend_2) (fun _ h9 => h9) rfl dX11_befriend_49 ?_
          refine lv_iload_n hx hb dX11_befriend_52 rfl (lv_at hl 2 rfl) ?_
          refine lv_iload_n hx hb dX11_befriend_53 rfl (lv_at hl 3 rfl) ?_
          refine lv_iload_n hx hb dX11_befriend_54 rfl (lv_at hl 4 rfl) ?_
          have hq := bd1_s hf
          clear hf
          obtain ⟨w12, hcall, hf⟩ := hq
          refine gsV (ws' := [(a_p0, .inr (11, [.ref a_p0_rules, .ref a_p0_state, .ref a_p0_tape, .ref a_p0_reader, .ref a_p0_kitchen, .ref a_p0_luck, .ref a_p0_plans, .ref a_p0_coups, .ref a_p0_past, .ref a_p0_fairDays, .ref a_p0_images, .ref a_p0_imageHeld, .ref a_p0_sheets, .int (Int32.ofInt i_p0_latestFault), .int (Int32.ofInt i_p0_latestTear)])), (a_p0_rules, .inr (6, [.int (Int32.ofInt i_p0_rules_seats), .int (Int32.ofInt i_p0_rules_stirs), .ref a_p0_rules_need, .ref a_p0_rules_kind, .ref a_p0_rules_first, .ref a_p0_rules_second, .ref a_p0_rules_after])), (a_p0_state, .inr (8, [.ref a_p0_state_pieces, .ref a_p0_state_friends, .ref a_p0_state_spoons, .ref a_p0_state_eaten, .ref a_p0_state_seen, .int (Int32.ofInt i_p0_state_seenDays), .int (Int32.ofInt i_p0_state_bone), .int (Int32.ofInt i_p0_state_king), .int (Int32.ofInt i_p0_state_days)])), (a_p0_state_friends, .inl (G 1, 7, .inl (zA w12)))]) (va_runV (As := [.int (Int32.ofInt x1), .int (Int32.ofInt x2), .int (Int32.ofInt x3)]) (rest := []) ⟨hx, hb, hml, hown, hts⟩ (c_X8_setFriend (l := l) (D := D) (G := G) (sz := H.size) (a_p0 := a_p0_state) (a_p0_pieces := a_p0_state_pieces) (a_p0_friends := a_p0_state_friends) (a_p0_spoons := a_p0_state_spoons) (a_p0_eaten := a_p0_state_eaten) (a_p0_seen := a_p0_state_seen) (i_p0_seenDays := i_p0_state_seenDays) (i_p0_bone := i_p0_state_bone) (i_p0_king := i_p0_state_king) (i_p0_days := i_p0_state_days) (v_p0_friends := v_p0_state_friends) (x1 := x1) (x2 := x2) (x3 := x3) (o_v_p0_friends := w12) (hf := hcall)) (cwV 3 hts gX11_befriend_X8_setFriend rfl rfl rfl hdV_yX8_setFriend_RX8 ⟨Nat.le_of_ble_eq_true rfl, Nat.le_of_ble_eq_true rfl⟩) (preG_V (ci := 8) (q := (RX8, TX8, 9)) (hP.sub [2, 3] rfl) (hD.sub [2, 3] rfl rfl) hK rfl rfl) rfl rfl hl.1 rfl (lv_room (Nat.le_of_ble_eq_true rfl)) dX11_befriend_55 ⟨Nat.le_of_ble_eq_true rfl, Nat.le_of_ble_eq_true rfl⟩) hP hD hS hA [2, 3] rfl rfl rfl (fun H locs hP hD hS => ?_)
          clear hcall
          refine lv_iload hx hb dX11_befriend_58 (lv_at hl 0 rfl) ?_
          obtain ⟨rfl, rfl⟩ := ou2 hf
          rw [hQ]
          exact W.iret hx hb hr (fun t ht hW => ⟨⟨_, (), rfl, rfl, by rw [ht]; exact hP, va_K.moved hW.alike hK, hD⟩, hS.F ht⟩) hS.2.2 dX11_befriend_60
        refine lv_if_eq (tgt := 45) hx hb dX11_befriend_38 (by decide) (fun cc => ?_) (fun cc => ?_)
        ·
          replace hf := ite_t ((z_eq0 hr7).mp cc) hf
          clear cc
          refine lv_iconst (v := Int32.ofInt (0 : Int)) hx hb dX11_befriend_45 (by decide) ?_
          exact hJ10 _ _ _ _ (lv_sub hl [0, 1, 2, 3] rfl) hP hD hS hf
        ·
          replace hf := ite_f (fun h9 => cc ((z_eq0 hr7).mpr h9)) hf
          clear cc
          refine lv_iconst (v := Int32.ofInt (1 : Int)) hx hb dX11_befriend_41 (by decide) ?_
          refine lv_goto (tgt := 46) hx hb dX11_befriend_42 (by decide) ?_
          exact hJ10 _ _ _ _ (lv_sub hl [0, 1, 2, 3] rfl) hP hD hS hf
      ·
        replace hf := ite_t ((z_eq hr4 hr5).mp cc) hf
        clear cc
        refine lv_iconst (v := Int32.ofInt (-1 : Int)) hx hb dX11_befriend_27 (by decide) ?_
        obtain ⟨rfl, rfl⟩ := ou2 hf
        rw [hQ]
        exact W.iret hx hb hr (fun t ht hW => ⟨⟨_, (), rfl, rfl, by rw [ht]; exact hP, va_K.moved hW.alike hK, hD⟩, hS.F ht⟩) hS.2.2 dX11_befriend_28

noncomputable def f_X11_spoon (i_p0_rules_seats : Int) (v_p0_state_spoons : (Int → Int)) (x1 : Int) (x2 : Int) : Option (Int × (Int → Int)) := (bd1 (f_X6_hasSeat i_p0_rules_seats x1) (fun (z1 : Int) => (ck (z_r32 z1) (if z1 = (0 : Int) then (some ((-1 : Int), v_p0_state_spoons)) else (ck (z_r32 x2) (if x2 < (1 : Int) then (some ((-1 : Int), v_p0_state_spoons)) else (if x2 ≤ (9 : Int) then (ck (z_ix x1 7) (bnd (v_p0_state_spoons x1) (fun (z4 : Int) => (ck (z_ix x1 7) (bnd (z_up v_p0_state_spoons x1 x2) (fun (w5 : (Int → Int)) => (some (z4, w5)))))))) else (some ((-1 : Int), v_p0_state_spoons)))))))))
abbrev rm_X11_spoon : Room := { frames := 1, cells := 0, slots := 0, locals := 21 }
theorem inX11_spoon_X11 : ∀ w ∈ wsX110, w ∈ wsX11_spoon := by first | exact fun w h => List.mem_cons_of_mem _ (List.mem_append_left _ (List.mem_append_left _ (List.mem_append_right _ h))) | decide +kernel
theorem mwX11_spoon_1 : Cond.fieldLink RX11 10 "LadleKings" "rules" "LLadleKings$Rules;" ∈ wsX11_spoon := by first | exact List.mem_of_getElem? (i := 1) rfl | decide +kernel
theorem mwX11_spoon_2 : Cond.fieldLink RX11 19 "LadleKings" "state" "LLadleKings$State;" ∈ wsX11_spoon := by first | exact List.mem_of_getElem? (i := 2) rfl | decide +kernel
theorem inX11_spoon_X8 : ∀ w ∈ wsX80, w ∈ wsX11_spoon := by first | exact fun w h => List.mem_cons_of_mem _ (List.mem_append_left _ (List.mem_append_right _ h)) | decide +kernel
theorem mwX11_spoon_4 : Cond.fieldLink RX11 156 "LadleKings$State" "spoons" "[I" ∈ wsX11_spoon := by first | exact List.mem_of_getElem? (i := 3) rfl | decide +kernel
set_option maxHeartbeats 8000000 in
set_option maxRecDepth 100000 in
theorem c_X11_spoon (l : Launch) (D : va_G) (G : Nat → ClassId) (sz : Nat) (a_p0 : Nat) (a_p0_rules : Nat) (a_p0_state : Nat) (a_p0_tape : Nat) (a_p0_reader : Nat) (a_p0_kitchen : Nat) (a_p0_luck : Nat) (a_p0_plans : Nat) (a_p0_coups : Nat) (a_p0_past : Nat) (a_p0_fairDays : Nat) (a_p0_images : Nat) (a_p0_imageHeld : Nat) (a_p0_sheets : Nat) (a_p0_rules_need : Nat) (a_p0_rules_kind : Nat) (a_p0_rules_first : Nat) (a_p0_rules_second : Nat) (a_p0_rules_after : Nat) (a_p0_state_pieces : Nat) (a_p0_state_friends : Nat) (a_p0_state_spoons : Nat) (a_p0_state_eaten : Nat) (a_p0_state_seen : Nat) (i_p0_latestFault : Int) (i_p0_latestTear : Int) (i_p0_rules_seats : Int) (i_p0_rules_stirs : Int) (i_p0_state_seenDays : Int) (i_p0_state_bone : Int) (i_p0_state_king : Int) (i_p0_state_days : Int) (v_p0_state_spoons : (Int → Int)) (x1 : Int) (x2 : Int) (r : Int) (o_v_p0_state_spoons : (Int → Int)) (hf : f_X11_spoon i_p0_rules_seats v_p0_state_spoons x1 x2 = some (r, o_v_p0_state_spoons)) : Met l yX11_spoon wsX11_spoon rm_X11_spoon (pcG D G [.ref a_p0, .int (Int32.ofInt x1), .int (Int32.ofInt x2)] sz [(a_p0, .inr (11, [.ref a_p0_rules, .ref a_p0_state, .ref a_p0_tape, .ref a_p0_reader, .ref a_p0_kitchen, .ref a_p0_luck, .ref a_p0_plans, .ref a_p0_coups, .ref a_p0_past, .ref a_p0_fairDays, .ref a_p0_images, .ref a_p0_imageHeld, .ref a_p0_sheets, .int (Int32.ofInt i_p0_latestFault), .int (Int32.ofInt i_p0_latestTear)])), (a_p0_rules, .inr (6, [.int (Int32.ofInt i_p0_rules_seats), .int (Int32.ofInt i_p0_rules_stirs), .ref a_p0_rules_need, .ref a_p0_rules_kind, .ref a_p0_rules_first, .ref a_p0_rules_second, .ref a_p0_rules_after])), (a_p0_state, .inr (8, [.ref a_p0_state_pieces, .ref a_p0_state_friends, .ref a_p0_state_spoons, .ref a_p0_state_eaten, .ref a_p0_state_seen, .int (Int32.ofInt i_p0_state_seenDays), .int (Int32.ofInt i_p0_state_bone), .int (Int32.ofInt i_p0_state_king), .int (Int32.ofInt i_p0_state_days)])), (a_p0_state_spoons, .inl (G 1, 7, .inl (zA v_p0_state_spoons)))]) (qcI D G (Int32.ofInt r) [(a_p0, .inr (11, [.ref a_p0_rules, .ref a_p0_state, .ref a_p0_tape, .ref a_p0_reader, .ref a_p0_kitchen, .ref a_p0_luck, .ref a_p0_plans, .ref a_p0_coups, .ref a_p0_past, .ref a_p0_fairDays, .ref a_p0_images, .ref a_p0_imageHeld, .ref a_p0_sheets, .int (Int32.ofInt i_p0_latestFault), .int (Int32.ofInt i_p0_latestTear)])), (a_p0_rules, .inr (6, [.int (Int32.ofInt i_p0_rules_seats), .int (Int32.ofInt i_p0_rules_stirs), .ref a_p0_rules_need, .ref a_p0_rules_kind, .ref a_p0_rules_first, .ref a_p0_rules_second, .ref a_p0_rules_after])), (a_p0_state, .inr (8, [.ref a_p0_state_pieces, .ref a_p0_state_friends, .ref a_p0_state_spoons, .ref a_p0_state_eaten, .ref a_p0_state_seen, .int (Int32.ofInt i_p0_state_seenDays), .int (Int32.ofInt i_p0_state_bone), .int (Int32.ofInt i_p0_state_king), .int (Int32.ofInt i_p0_state_days)])), (a_p0_state_spoons, .inl (G 1, 7, .inl (zA o_v_p0_state_spoons)))] (va_A [(a_p0, .inr (11, [.ref a_p0_rules, .ref a_p0_state, .ref a_p0_tape, .ref a_p0_reader, .ref a_p0_kitchen, .ref a_p0_luck, .ref a_p0_plans, .ref a_p0_coups, .ref a_p0_past, .ref a_p0_fairDays, .ref a_p0_images, .ref a_p0_imageHeld, .ref a_p0_sheets, .int (Int32.ofInt i_p0_latestFault), .int (Int32.ofInt i_p0_latestTear)])), (a_p0_rules, .inr (6, [.int (Int32.ofInt i_p0_rules_seats), .int (Int32.ofInt i_p0_rules_stirs), .ref a_p0_rules_need, .ref a_p0_rules_kind, .ref a_p0_rules_first, .ref a_p0_rules_second, .ref a_p0_rules_after])), (a_p0_state, .inr (8, [.ref a_p0_state_pieces, .ref a_p0_state_friends, .ref a_p0_state_spoons, .ref a_p0_state_eaten, .ref a_p0_state_seen, .int (Int32.ofInt i_p0_state_seenDays), .int (Int32.ofInt i_p0_state_bone), .int (Int32.ofInt i_p0_state_king), .int (Int32.ofInt i_p0_state_days)])), (a_p0_state_spoons, .inl (G 1, 7, .inl (zA v_p0_state_spoons)))] sz)) 0 0 (va_A [(a_p0, .inr (11, [.ref a_p0_rules, .ref a_p0_state, .ref a_p0_tape, .ref a_p0_reader, .ref a_p0_kitchen, .ref a_p0_luck, .ref a_p0_plans, .ref a_p0_coups, .ref a_p0_past, .ref a_p0_fairDays, .ref a_p0_images, .ref a_p0_imageHeld, .ref a_p0_sheets, .int (Int32.ofInt i_p0_latestFault), .int (Int32.ofInt i_p0_latestTear)])), (a_p0_rules, .inr (6, [.int (Int32.ofInt i_p0_rules_seats), .int (Int32.ofInt i_p0_rules_stirs), .ref a_p0_rules_need, .ref a_p0_rules_kind, .ref a_p0_rules_first, .ref a_p0_rules_second, .ref a_p0_rules_after])), (a_p0_state, .inr (8, [.ref a_p0_state_pieces, .ref a_p0_state_friends, .ref a_p0_state_spoons, .ref a_p0_state_eaten, .ref a_p0_state_seen, .int (Int32.ofInt i_p0_state_seenDays), .int (Int32.ofInt i_p0_state_bone), .int (Int32.ofInt i_p0_state_king), .int (Int32.ofInt i_p0_state_days)])), (a_p0_state_spoons, .inl (G 1, 7, .inl (zA v_p0_state_spoons)))] sz) := by
  refine Met.ofW (cc := cX11_spoon) (maxL := 4) (ret := (some .int)) (by decide) rfl ?_
  intro p e s m args below meth c s₁ B hml hv
  obtain ⟨rfl, hsz, hP, hK, hD0⟩ := hv
  have hx := B.exec
  have hb := B.bytes
  have hr := B.returns
  have hts := atoms_spec (ws := wsX11_spoon) B.pre
  have hown : s.vm.findClass RX11 = some m.cls := findClass_of_methodNamed B.named
  have hlocks := B.notSynchronized
  subst hsz
  have hD := hD0.self (sz := s.heap.size)
  generalize hAe : va_A [(a_p0, .inr (11, [.ref a_p0_rules, .ref a_p0_state, .ref a_p0_tape, .ref a_p0_reader, .ref a_p0_kitchen, .ref a_p0_luck, .ref a_p0_plans, .ref a_p0_coups, .ref a_p0_past, .ref a_p0_fairDays, .ref a_p0_images, .ref a_p0_imageHeld, .ref a_p0_sheets, .int (Int32.ofInt i_p0_latestFault), .int (Int32.ofInt i_p0_latestTear)])), (a_p0_rules, .inr (6, [.int (Int32.ofInt i_p0_rules_seats), .int (Int32.ofInt i_p0_rules_stirs), .ref a_p0_rules_need, .ref a_p0_rules_kind, .ref a_p0_rules_first, .ref a_p0_rules_second, .ref a_p0_rules_after])), (a_p0_state, .inr (8, [.ref a_p0_state_pieces, .ref a_p0_state_friends, .ref a_p0_state_spoons, .ref a_p0_state_eaten, .ref a_p0_state_seen, .int (Int32.ofInt i_p0_state_seenDays), .int (Int32.ofInt i_p0_state_bone), .int (Int32.ofInt i_p0_state_king), .int (Int32.ofInt i_p0_state_days)])), (a_p0_state_spoons, .inl (G 1, 7, .inl (zA v_p0_state_spoons)))] s.heap.size = A at hD ⊢
  have hA : ∀ q : Nat, s.heap.size ≤ q → A q := fun q h => by rw [← hAe]; exact Or.inr h
  clear hAe hD0
  have hS : va_S A s.heap s.heap [] := va_S.rf
  have hl := lv_entry ([.ref a_p0, .int (Int32.ofInt x1), .int (Int32.ofInt x2)]) (n := 4) (Nat.le_of_ble_eq_true rfl)
  rw [lg_entry_eq]
  generalize (lg_sl ([.ref a_p0, .int (Int32.ofInt x1), .int (Int32.ofInt x2)]) ++ List.replicate (4 - (lg_sl ([.ref a_p0, .int (Int32.ofInt x1), .int (Int32.ofInt x2)])).length) Slot.unset).toArray = ls at hl ⊢
  have hl : lv_has ls 4 [(0, .ref a_p0), (1, .int (Int32.ofInt x1)), (2, .int (Int32.ofInt x2))] := hl
  refine W_nameQ (fun Q hQ => ?_)
  obtain ⟨H, hH⟩ : ∃ H, H = s.heap := ⟨_, rfl⟩
  replace hS : va_S A s.heap H [] := by rw [hH]; exact hS
  replace hP : va_P D vwCl [(a_p0, .inr (11, [.ref a_p0_rules, .ref a_p0_state, .ref a_p0_tape, .ref a_p0_reader, .ref a_p0_kitchen, .ref a_p0_luck, .ref a_p0_plans, .ref a_p0_coups, .ref a_p0_past, .ref a_p0_fairDays, .ref a_p0_images, .ref a_p0_imageHeld, .ref a_p0_sheets, .int (Int32.ofInt i_p0_latestFault), .int (Int32.ofInt i_p0_latestTear)])), (a_p0_rules, .inr (6, [.int (Int32.ofInt i_p0_rules_seats), .int (Int32.ofInt i_p0_rules_stirs), .ref a_p0_rules_need, .ref a_p0_rules_kind, .ref a_p0_rules_first, .ref a_p0_rules_second, .ref a_p0_rules_after])), (a_p0_state, .inr (8, [.ref a_p0_state_pieces, .ref a_p0_state_friends, .ref a_p0_state_spoons, .ref a_p0_state_eaten, .ref a_p0_state_seen, .int (Int32.ofInt i_p0_state_seenDays), .int (Int32.ofInt i_p0_state_bone), .int (Int32.ofInt i_p0_state_king), .int (Int32.ofInt i_p0_state_days)])), (a_p0_state_spoons, .inl (G 1, 7, .inl (zA v_p0_state_spoons)))] H := by rw [hH]; exact hP
  rw [← hH]
  clear hH
  unfold f_X11_spoon at hf
  refine lv_aload_n hx hb dX11_spoon_0 rfl (lv_at hl 0 rfl) ?_
  refine va_get (D := D) (ci := 11) (v := .ref a_p0_rules) (C := RX11) (T := TX11) (N := 15) hx hb hts inX11_spoon_X11 hown hK hP 0 rfl rfl 0 (by decide) (hts _ mwX11_spoon_1) (fun _ h9 => h9) rfl dX11_spoon_1 ?_
  refine lv_iload_n hx hb dX11_spoon_4 rfl (lv_at hl 1 rfl) ?_
  have hq := bd1_s hf
  clear hf
  obtain ⟨z1, hcall, hf⟩ := hq
  refine gnI (va_runV (As := [.int (Int32.ofInt x1)]) (rest := []) ⟨hx, hb, hml, hown, hts⟩ (c_X6_hasSeat (l := l) (D := D) (G := G) (sz := H.size) (a_p0 := a_p0_rules) (a_p0_need := a_p0_rules_need) (a_p0_kind := a_p0_rules_kind) (a_p0_first := a_p0_rules_first) (a_p0_second := a_p0_rules_second) (a_p0_after := a_p0_rules_after) (i_p0_seats := i_p0_rules_seats) (i_p0_stirs := i_p0_rules_stirs) (x1 := x1) (r := z1) (hf := hcall)) (cwV 1 hts gX11_spoon_X6_hasSeat rfl rfl rfl hdV_yX6_hasSeat_RX6 ⟨Nat.le_of_ble_eq_true rfl, Nat.le_of_ble_eq_true rfl⟩) (preG_V (ci := 6) (q := (RX6, TX6, 7)) (hP.sub [1] rfl) (hD.sub [1] rfl rfl) hK rfl rfl) rfl rfl hl.1 rfl (lv_room (Nat.le_of_ble_eq_true rfl)) dX11_spoon_5 ⟨Nat.le_of_ble_eq_true rfl, Nat.le_of_ble_eq_true rfl⟩) hP hD hS hA [1] rfl (fun H locs hP hD hS => ?_)
  clear hcall
  have hr1 := ck_c hf
  replace hf := ck_r hf
  refine lv_if_eq (tgt := 22) hx hb dX11_spoon_8 (by decide) (fun cc => ?_) (fun cc => ?_)
  ·
    replace hf := ite_t ((z_eq0 hr1).mp cc) hf
    clear cc
    refine lv_iconst (v := Int32.ofInt (-1 : Int)) hx hb dX11_spoon_22 (by decide) ?_
    obtain ⟨rfl, rfl⟩ := ou2 hf
    rw [hQ]
    exact W.iret hx hb hr (fun t ht hW => ⟨⟨_, (), rfl, rfl, by rw [ht]; exact hP, va_K.moved hW.alike hK, hD⟩, hS.F ht⟩) hS.2.2 dX11_spoon_23
  ·
    replace hf := ite_f (fun h9 => cc ((z_eq0 hr1).mpr h9)) hf
    clear cc
    refine lv_iload_n hx hb dX11_spoon_11 rfl (lv_at hl 2 rfl) ?_
    refine lv_iconst (v := Int32.ofInt (1 : Int)) hx hb dX11_spoon_12 (by decide) ?_
    have hr2 := ck_c hf
    replace hf := ck_r hf
    refine lv_icmp_lt (tgt := 22) hx hb dX11_spoon_13 (by decide) (fun cc => ?_) (fun cc => ?_)
    ·
      replace hf := ite_t ((z_lt hr2 (by decide)).mp cc) hf
      clear cc
      refine lv_iconst (v := Int32.ofInt (-1 : Int)) hx hb dX11_spoon_22 (by decide) ?_
      obtain ⟨rfl, rfl⟩ := ou2 hf
      rw [hQ]
      exact W.iret hx hb hr (fun t ht hW => ⟨⟨_, (), rfl, rfl, by rw [ht]; exact hP, va_K.moved hW.alike hK, hD⟩, hS.F ht⟩) hS.2.2 dX11_spoon_23
    ·
      replace hf := ite_f (fun h9 => cc ((z_lt hr2 (by decide)).mpr h9)) hf
      clear cc
      refine lv_iload_n hx hb dX11_spoon_16 rfl (lv_at hl 2 rfl) ?_
      refine lv_bipush (v := Int32.ofInt (9 : Int)) hx hb dX11_spoon_17 (by decide) ?_
      refine lv_icmp_le (tgt := 24) hx hb dX11_spoon_19 (by decide) (fun cc => ?_) (fun cc => ?_)
      ·
        replace hf := ite_t ((z_le hr2 (by decide)).mp cc) hf
        clear cc
        refine lv_aload_n hx hb dX11_spoon_24 rfl (lv_at hl 0 rfl) ?_
        refine va_get (D := D) (ci := 11) (v := .ref a_p0_state) (C := RX11) (T := TX11) (N := 15) hx hb hts inX11_spoon_X11 hown hK hP 0 rfl rfl 1 (by decide) (hts _ mwX11_spoon_2) (fun _ h9 => h9) rfl dX11_spoon_25 ?_
        refine va_get (D := D) (ci := 8) (v := .ref a_p0_state_spoons) (C := RX8) (T := TX8) (N := 9) hx hb hts inX11_spoon_X8 hown hK hP 2 rfl rfl 2 (by decide) (hts _ mwX11_spoon_4) (fun _ h9 => h9) rfl dX11_spoon_28 ?_
        refine lv_iload_n hx hb dX11_spoon_31 rfl (lv_at hl 1 rfl) ?_
        have hc := ck_c hf
        replace hf := ck_r hf
        refine va_iald hx hb hK hP 3 1 rfl rfl (z_ix_in hc) dX11_spoon_32 (z_ci (z_ald v_p0_state_spoons hc) ?_)
        clear hc
        refine z_topi (fun z4 ez => ?_)
        replace hf := bnd_s hf ez
        clear ez
        refine lv_istore_n (lv' := [(3, .int (Int32.ofInt z4)), (0, .ref a_p0), (1, .int (Int32.ofInt x1)), (2, .int (Int32.ofInt x2))]) hx hb dX11_spoon_33 rfl hl (by decide) rfl (fun ls hl => ?_)
        refine lv_aload_n hx hb dX11_spoon_34 rfl (lv_at hl 1 rfl) ?_
        refine va_get (D := D) (ci := 11) (v := .ref a_p0_state) (C := RX11) (T := TX11) (N := 15) hx hb hts inX11_spoon_X11 hown hK hP 0 rfl rfl 1 (by decide) (hts _ mwX11_spoon_2) (fun _ h9 => h9) rfl dX11_spoon_35 ?_
        refine va_get (D := D) (ci := 8) (v := .ref a_p0_state_spoons) (C := RX8) (T := TX8) (N := 9) hx hb hts inX11_spoon_X8 hown hK hP 2 rfl rfl 2 (by decide) (hts _ mwX11_spoon_4) (fun _ h9 => h9) rfl dX11_spoon_38 ?_
        refine lv_iload_n hx hb dX11_spoon_41 rfl (lv_at hl 2 rfl) ?_
        refine lv_iload_n hx hb dX11_spoon_42 rfl (lv_at hl 3 rfl) ?_
        have hc := ck_c hf
        replace hf := ck_r hf
        refine zs_iast (wf := fun w5 => [(a_p0, .inr (11, [.ref a_p0_rules, .ref a_p0_state, .ref a_p0_tape, .ref a_p0_reader, .ref a_p0_kitchen, .ref a_p0_luck, .ref a_p0_plans, .ref a_p0_coups, .ref a_p0_past, .ref a_p0_fairDays, .ref a_p0_images, .ref a_p0_imageHeld, .ref a_p0_sheets, .int (Int32.ofInt i_p0_latestFault), .int (Int32.ofInt i_p0_latestTear)])), (a_p0_rules, .inr (6, [.int (Int32.ofInt i_p0_rules_seats), .int (Int32.ofInt i_p0_rules_stirs), .ref a_p0_rules_need, .ref a_p0_rules_kind, .ref a_p0_rules_first, .ref a_p0_rules_second, .ref a_p0_rules_after])), (a_p0_state, .inr (8, [.ref a_p0_state_pieces, .ref a_p0_state_friends, .ref a_p0_state_spoons, .ref a_p0_state_eaten, .ref a_p0_state_seen, .int (Int32.ofInt i_p0_state_seenDays), .int (Int32.ofInt i_p0_state_bone), .int (Int32.ofInt i_p0_state_king), .int (Int32.ofInt i_p0_state_days)])), (a_p0_state_spoons, .inl (G 1, 7, .inl (zA w5)))]) hx hb hK hP hD hS 3 1 rfl rfl hc dX11_spoon_43 (fun _ => rfl) (fun w5 ez H locs hP hD hS => ?_)
        replace hf := bnd_s hf ez
        clear ez hc
        refine lv_iload_n hx hb dX11_spoon_44 rfl (lv_at hl 0 rfl) ?_
        obtain ⟨rfl, rfl⟩ := ou2 hf
        rw [hQ]
        exact W.iret hx hb hr (fun t ht hW => ⟨⟨_, (), rfl, rfl, by rw [ht]; exact hP, va_K.moved hW.alike hK, hD⟩, hS.F ht⟩) hS.2.2 dX11_spoon_45
      ·
        replace hf := ite_f (fun h9 => cc ((z_le hr2 (by decide)).mpr h9)) hf
        clear cc
        refine lv_iconst (v := Int32.ofInt (-1 : Int)) hx hb dX11_spoon_22 (by decide) ?_
        obtain ⟨rfl, rfl⟩ := ou2 hf
        rw [hQ]
        exact W.iret hx hb hr (fun t ht hW => ⟨⟨_, (), rfl, rfl, by rw [ht]; exact hP, va_K.moved hW.alike hK, hD⟩, hS.F ht⟩) hS.2.2 dX11_spoon_23

noncomputable def f_X11_crown (i_p0_rules_seats : Int) (i_p0_state_king : Int) (x1 : Int) : Option (Int × Int) := (bd1 (f_X6_hasSeat i_p0_rules_seats x1) (fun (z1 : Int) => (ck (z_r32 z1) (if z1 = (0 : Int) then (some ((-1 : Int), i_p0_state_king)) else (bnd i_p0_state_king (fun (z3 : Int) => (bnd x1 (fun (z4 : Int) => (some (z3, z4))))))))))
abbrev rm_X11_crown : Room := { frames := 1, cells := 0, slots := 0, locals := 21 }
theorem inX11_crown_X11 : ∀ w ∈ wsX110, w ∈ wsX11_crown := by first | exact fun w h => List.mem_cons_of_mem _ (List.mem_append_left _ (List.mem_append_left _ (List.mem_append_right _ h))) | decide +kernel
theorem mwX11_crown_1 : Cond.fieldLink RX11 10 "LadleKings" "rules" "LLadleKings$Rules;" ∈ wsX11_crown := by first | exact List.mem_of_getElem? (i := 1) rfl | decide +kernel
theorem mwX11_crown_2 : Cond.fieldLink RX11 19 "LadleKings" "state" "LLadleKings$State;" ∈ wsX11_crown := by first | exact List.mem_of_getElem? (i := 2) rfl | decide +kernel
theorem inX11_crown_X8 : ∀ w ∈ wsX80, w ∈ wsX11_crown := by first | exact fun w h => List.mem_cons_of_mem _ (List.mem_append_left _ (List.mem_append_right _ h)) | decide +kernel
theorem mwX11_crown_4 : Cond.fieldLink RX11 136 "LadleKings$State" "king" "I" ∈ wsX11_crown := by first | exact List.mem_of_getElem? (i := 3) rfl | decide +kernel
set_option maxHeartbeats 8000000 in
set_option maxRecDepth 100000 in
theorem c_X11_crown (l : Launch) (D : va_G) (G : Nat → ClassId) (sz : Nat) (a_p0 : Nat) (a_p0_rules : Nat) (a_p0_state : Nat) (a_p0_tape : Nat) (a_p0_reader : Nat) (a_p0_kitchen : Nat) (a_p0_luck : Nat) (a_p0_plans : Nat) (a_p0_coups : Nat) (a_p0_past : Nat) (a_p0_fairDays : Nat) (a_p0_images : Nat) (a_p0_imageHeld : Nat) (a_p0_sheets : Nat) (a_p0_rules_need : Nat) (a_p0_rules_kind : Nat) (a_p0_rules_first : Nat) (a_p0_rules_second : Nat) (a_p0_rules_after : Nat) (a_p0_state_pieces : Nat) (a_p0_state_friends : Nat) (a_p0_state_spoons : Nat) (a_p0_state_eaten : Nat) (a_p0_state_seen : Nat) (i_p0_latestFault : Int) (i_p0_latestTear : Int) (i_p0_rules_seats : Int) (i_p0_rules_stirs : Int) (i_p0_state_seenDays : Int) (i_p0_state_bone : Int) (i_p0_state_king : Int) (i_p0_state_days : Int) (x1 : Int) (r : Int) (o_i_p0_state_king : Int) (hf : f_X11_crown i_p0_rules_seats i_p0_state_king x1 = some (r, o_i_p0_state_king)) : Met l yX11_crown wsX11_crown rm_X11_crown (pcG D G [.ref a_p0, .int (Int32.ofInt x1)] sz [(a_p0, .inr (11, [.ref a_p0_rules, .ref a_p0_state, .ref a_p0_tape, .ref a_p0_reader, .ref a_p0_kitchen, .ref a_p0_luck, .ref a_p0_plans, .ref a_p0_coups, .ref a_p0_past, .ref a_p0_fairDays, .ref a_p0_images, .ref a_p0_imageHeld, .ref a_p0_sheets, .int (Int32.ofInt i_p0_latestFault), .int (Int32.ofInt i_p0_latestTear)])), (a_p0_rules, .inr (6, [.int (Int32.ofInt i_p0_rules_seats), .int (Int32.ofInt i_p0_rules_stirs), .ref a_p0_rules_need, .ref a_p0_rules_kind, .ref a_p0_rules_first, .ref a_p0_rules_second, .ref a_p0_rules_after])), (a_p0_state, .inr (8, [.ref a_p0_state_pieces, .ref a_p0_state_friends, .ref a_p0_state_spoons, .ref a_p0_state_eaten, .ref a_p0_state_seen, .int (Int32.ofInt i_p0_state_seenDays), .int (Int32.ofInt i_p0_state_bone), .int (Int32.ofInt i_p0_state_king), .int (Int32.ofInt i_p0_state_days)]))]) (qcI D G (Int32.ofInt r) [(a_p0, .inr (11, [.ref a_p0_rules, .ref a_p0_state, .ref a_p0_tape, .ref a_p0_reader, .ref a_p0_kitchen, .ref a_p0_luck, .ref a_p0_plans, .ref a_p0_coups, .ref a_p0_past, .ref a_p0_fairDays, .ref a_p0_images, .ref a_p0_imageHeld, .ref a_p0_sheets, .int (Int32.ofInt i_p0_latestFault), .int (Int32.ofInt i_p0_latestTear)])), (a_p0_rules, .inr (6, [.int (Int32.ofInt i_p0_rules_seats), .int (Int32.ofInt i_p0_rules_stirs), .ref a_p0_rules_need, .ref a_p0_rules_kind, .ref a_p0_rules_first, .ref a_p0_rules_second, .ref a_p0_rules_after])), (a_p0_state, .inr (8, [.ref a_p0_state_pieces, .ref a_p0_state_friends, .ref a_p0_state_spoons, .ref a_p0_state_eaten, .ref a_p0_state_seen, .int (Int32.ofInt i_p0_state_seenDays), .int (Int32.ofInt i_p0_state_bone), .int (Int32.ofInt o_i_p0_state_king), .int (Int32.ofInt i_p0_state_days)]))] (va_A [(a_p0, .inr (11, [.ref a_p0_rules, .ref a_p0_state, .ref a_p0_tape, .ref a_p0_reader, .ref a_p0_kitchen, .ref a_p0_luck, .ref a_p0_plans, .ref a_p0_coups, .ref a_p0_past, .ref a_p0_fairDays, .ref a_p0_images, .ref a_p0_imageHeld, .ref a_p0_sheets, .int (Int32.ofInt i_p0_latestFault), .int (Int32.ofInt i_p0_latestTear)])), (a_p0_rules, .inr (6, [.int (Int32.ofInt i_p0_rules_seats), .int (Int32.ofInt i_p0_rules_stirs), .ref a_p0_rules_need, .ref a_p0_rules_kind, .ref a_p0_rules_first, .ref a_p0_rules_second, .ref a_p0_rules_after])), (a_p0_state, .inr (8, [.ref a_p0_state_pieces, .ref a_p0_state_friends, .ref a_p0_state_spoons, .ref a_p0_state_eaten, .ref a_p0_state_seen, .int (Int32.ofInt i_p0_state_seenDays), .int (Int32.ofInt i_p0_state_bone), .int (Int32.ofInt i_p0_state_king), .int (Int32.ofInt i_p0_state_days)]))] sz)) 0 0 (va_A [(a_p0, .inr (11, [.ref a_p0_rules, .ref a_p0_state, .ref a_p0_tape, .ref a_p0_reader, .ref a_p0_kitchen, .ref a_p0_luck, .ref a_p0_plans, .ref a_p0_coups, .ref a_p0_past, .ref a_p0_fairDays, .ref a_p0_images, .ref a_p0_imageHeld, .ref a_p0_sheets, .int (Int32.ofInt i_p0_latestFault), .int (Int32.ofInt i_p0_latestTear)])), (a_p0_rules, .inr (6, [.int (Int32.ofInt i_p0_rules_seats), .int (Int32.ofInt i_p0_rules_stirs), .ref a_p0_rules_need, .ref a_p0_rules_kind, .ref a_p0_rules_first, .ref a_p0_rules_second, .ref a_p0_rules_after])), (a_p0_state, .inr (8, [.ref a_p0_state_pieces, .ref a_p0_state_friends, .ref a_p0_state_spoons, .ref a_p0_state_eaten, .ref a_p0_state_seen, .int (Int32.ofInt i_p0_state_seenDays), .int (Int32.ofInt i_p0_state_bone), .int (Int32.ofInt i_p0_state_king), .int (Int32.ofInt i_p0_state_days)]))] sz) := by
  refine Met.ofW (cc := cX11_crown) (maxL := 3) (ret := (some .int)) (by decide) rfl ?_
  intro p e s m args below meth c s₁ B hml hv
  obtain ⟨rfl, hsz, hP, hK, hD0⟩ := hv
  have hx := B.exec
  have hb := B.bytes
  have hr := B.returns
  have hts := atoms_spec (ws := wsX11_crown) B.pre
  have hown : s.vm.findClass RX11 = some m.cls := findClass_of_methodNamed B.named
  have hlocks := B.notSynchronized
  subst hsz
  have hD := hD0.self (sz := s.heap.size)
  generalize hAe : va_A [(a_p0, .inr (11, [.ref a_p0_rules, .ref a_p0_state, .ref a_p0_tape, .ref a_p0_reader, .ref a_p0_kitchen, .ref a_p0_luck, .ref a_p0_plans, .ref a_p0_coups, .ref a_p0_past, .ref a_p0_fairDays, .ref a_p0_images, .ref a_p0_imageHeld, .ref a_p0_sheets, .int (Int32.ofInt i_p0_latestFault), .int (Int32.ofInt i_p0_latestTear)])), (a_p0_rules, .inr (6, [.int (Int32.ofInt i_p0_rules_seats), .int (Int32.ofInt i_p0_rules_stirs), .ref a_p0_rules_need, .ref a_p0_rules_kind, .ref a_p0_rules_first, .ref a_p0_rules_second, .ref a_p0_rules_after])), (a_p0_state, .inr (8, [.ref a_p0_state_pieces, .ref a_p0_state_friends, .ref a_p0_state_spoons, .ref a_p0_state_eaten, .ref a_p0_state_seen, .int (Int32.ofInt i_p0_state_seenDays), .int (Int32.ofInt i_p0_state_bone), .int (Int32.ofInt i_p0_state_king), .int (Int32.ofInt i_p0_state_days)]))] s.heap.size = A at hD ⊢
  have hA : ∀ q : Nat, s.heap.size ≤ q → A q := fun q h => by rw [← hAe]; exact Or.inr h
  clear hAe hD0
  have hS : va_S A s.heap s.heap [] := va_S.rf
  have hl := lv_entry ([.ref a_p0, .int (Int32.ofInt x1)]) (n := 3) (Nat.le_of_ble_eq_true rfl)
  rw [lg_entry_eq]
  generalize (lg_sl ([.ref a_p0, .int (Int32.ofInt x1)]) ++ List.replicate (3 - (lg_sl ([.ref a_p0, .int (Int32.ofInt x1)])).length) Slot.unset).toArray = ls at hl ⊢
  have hl : lv_has ls 3 [(0, .ref a_p0), (1, .int (Int32.ofInt x1))] := hl
  refine W_nameQ (fun Q hQ => ?_)
  obtain ⟨H, hH⟩ : ∃ H, H = s.heap := ⟨_, rfl⟩
  replace hS : va_S A s.heap H [] := by rw [hH]; exact hS
  replace hP : va_P D vwCl [(a_p0, .inr (11, [.ref a_p0_rules, .ref a_p0_state, .ref a_p0_tape, .ref a_p0_reader, .ref a_p0_kitchen, .ref a_p0_luck, .ref a_p0_plans, .ref a_p0_coups, .ref a_p0_past, .ref a_p0_fairDays, .ref a_p0_images, .ref a_p0_imageHeld, .ref a_p0_sheets, .int (Int32.ofInt i_p0_latestFault), .int (Int32.ofInt i_p0_latestTear)])), (a_p0_rules, .inr (6, [.int (Int32.ofInt i_p0_rules_seats), .int (Int32.ofInt i_p0_rules_stirs), .ref a_p0_rules_need, .ref a_p0_rules_kind, .ref a_p0_rules_first, .ref a_p0_rules_second, .ref a_p0_rules_after])), (a_p0_state, .inr (8, [.ref a_p0_state_pieces, .ref a_p0_state_friends, .ref a_p0_state_spoons, .ref a_p0_state_eaten, .ref a_p0_state_seen, .int (Int32.ofInt i_p0_state_seenDays), .int (Int32.ofInt i_p0_state_bone), .int (Int32.ofInt i_p0_state_king), .int (Int32.ofInt i_p0_state_days)]))] H := by rw [hH]; exact hP
  rw [← hH]
  clear hH
  unfold f_X11_crown at hf
  refine lv_aload_n hx hb dX11_crown_0 rfl (lv_at hl 0 rfl) ?_
  refine va_get (D := D) (ci := 11) (v := .ref a_p0_rules) (C := RX11) (T := TX11) (N := 15) hx hb hts inX11_crown_X11 hown hK hP 0 rfl rfl 0 (by decide) (hts _ mwX11_crown_1) (fun _ h9 => h9) rfl dX11_crown_1 ?_
  refine lv_iload_n hx hb dX11_crown_4 rfl (lv_at hl 1 rfl) ?_
  have hq := bd1_s hf
  clear hf
  obtain ⟨z1, hcall, hf⟩ := hq
  refine gnI (va_runV (As := [.int (Int32.ofInt x1)]) (rest := []) ⟨hx, hb, hml, hown, hts⟩ (c_X6_hasSeat (l := l) (D := D) (G := G) (sz := H.size) (a_p0 := a_p0_rules) (a_p0_need := a_p0_rules_need) (a_p0_kind := a_p0_rules_kind) (a_p0_first := a_p0_rules_first) (a_p0_second := a_p0_rules_second) (a_p0_after := a_p0_rules_after) (i_p0_seats := i_p0_rules_seats) (i_p0_stirs := i_p0_rules_stirs) (x1 := x1) (r := z1) (hf := hcall)) (cwV 1 hts gX11_crown_X6_hasSeat rfl rfl rfl hdV_yX6_hasSeat_RX6 ⟨Nat.le_of_ble_eq_true rfl, Nat.le_of_ble_eq_true rfl⟩) (preG_V (ci := 6) (q := (RX6, TX6, 7)) (hP.sub [1] rfl) (hD.sub [1] rfl rfl) hK rfl rfl) rfl rfl hl.1 rfl (lv_room (Nat.le_of_ble_eq_true rfl)) dX11_crown_5 ⟨Nat.le_of_ble_eq_true rfl, Nat.le_of_ble_eq_true rfl⟩) hP hD hS hA [1] rfl (fun H locs hP hD hS => ?_)
  clear hcall
  have hr1 := ck_c hf
  replace hf := ck_r hf
  refine lv_if_ne (tgt := 13) hx hb dX11_crown_8 (by decide) (fun cc => ?_) (fun cc => ?_)
  ·
    replace hf := ite_f (fun h9 => cc ((z_eq0 hr1).mpr h9)) hf
    clear cc
    refine lv_aload_n hx hb dX11_crown_13 rfl (lv_at hl 0 rfl) ?_
    refine va_get (D := D) (ci := 11) (v := .ref a_p0_state) (C := RX11) (T := TX11) (N := 15) hx hb hts inX11_crown_X11 hown hK hP 0 rfl rfl 1 (by decide) (hts _ mwX11_crown_2) (fun _ h9 => h9) rfl dX11_crown_14 ?_
    refine va_get (D := D) (ci := 8) (v := .int (Int32.ofInt i_p0_state_king)) (C := RX8) (T := TX8) (N := 9) hx hb hts inX11_crown_X8 hown hK hP 2 rfl rfl 7 (by decide) (hts _ mwX11_crown_4) (fun _ h9 => h9) rfl dX11_crown_17 ?_
    refine z_topi (fun z3 ez => ?_)
    replace hf := bnd_s hf ez
    clear ez
    refine lv_istore_n (lv' := [(2, .int (Int32.ofInt z3)), (0, .ref a_p0), (1, .int (Int32.ofInt x1))]) hx hb dX11_crown_20 rfl hl (by decide) rfl (fun ls hl => ?_)
    refine lv_aload_n hx hb dX11_crown_21 rfl (lv_at hl 1 rfl) ?_
    refine va_get (D := D) (ci := 11) (v := .ref a_p0_state) (C := RX11) (T := TX11) (N := 15) hx hb hts inX11_crown_X11 hown hK hP 0 rfl rfl 1 (by decide) (hts _ mwX11_crown_2) (fun _ h9 => h9) rfl dX11_crown_22 ?_
    refine lv_iload_n hx hb dX11_crown_25 rfl (lv_at hl 2 rfl) ?_
    refine z_topi (fun z4 ez => ?_)
    replace hf := bnd_s hf ez
    clear ez
    refine va_put (D := D) (ci := 8) (v := .int (Int32.ofInt z4)) (ty := .int) (C := RX8) (T := TX8) (N := 9) hx hb hts inX11_crown_X8 tyX8 tyX8_ok nmX8 hown hK hP hD hS 2 rfl rfl 7 (by decide) (hts _ mwX11_crown_4) (fun _ h9 => h9) rfl (by decide +kernel) rfl rfl (Nat.le_of_ble_eq_true rfl) dX11_crown_26 (fun H locs hP hD hS => ?_)
    have hP : va_P D vwCl [(a_p0, .inr (11, [.ref a_p0_rules, .ref a_p0_state, .ref a_p0_tape, .ref a_p0_reader, .ref a_p0_kitchen, .ref a_p0_luck, .ref a_p0_plans, .ref a_p0_coups, .ref a_p0_past, .ref a_p0_fairDays, .ref a_p0_images, .ref a_p0_imageHeld, .ref a_p0_sheets, .int (Int32.ofInt i_p0_latestFault), .int (Int32.ofInt i_p0_latestTear)])), (a_p0_rules, .inr (6, [.int (Int32.ofInt i_p0_rules_seats), .int (Int32.ofInt i_p0_rules_stirs), .ref a_p0_rules_need, .ref a_p0_rules_kind, .ref a_p0_rules_first, .ref a_p0_rules_second, .ref a_p0_rules_after])), (a_p0_state, .inr (8, [.ref a_p0_state_pieces, .ref a_p0_state_friends, .ref a_p0_state_spoons, .ref a_p0_state_eaten, .ref a_p0_state_seen, .int (Int32.ofInt i_p0_state_seenDays), .int (Int32.ofInt i_p0_state_bone), .int (Int32.ofInt z4), .int (Int32.ofInt i_p0_state_days)]))] H := hP
    have hD : va_D A [(a_p0, .inr (11, [.ref a_p0_rules, .ref a_p0_state, .ref a_p0_tape, .ref a_p0_reader, .ref a_p0_kitchen, .ref a_p0_luck, .ref a_p0_plans, .ref a_p0_coups, .ref a_p0_past, .ref a_p0_fairDays, .ref a_p0_images, .ref a_p0_imageHeld, .ref a_p0_sheets, .int (Int32.ofInt i_p0_latestFault), .int (Int32.ofInt i_p0_latestTear)])), (a_p0_rules, .inr (6, [.int (Int32.ofInt i_p0_rules_seats), .int (Int32.ofInt i_p0_rules_stirs), .ref a_p0_rules_need, .ref a_p0_rules_kind, .ref a_p0_rules_first, .ref a_p0_rules_second, .ref a_p0_rules_after])), (a_p0_state, .inr (8, [.ref a_p0_state_pieces, .ref a_p0_state_friends, .ref a_p0_state_spoons, .ref a_p0_state_eaten, .ref a_p0_state_seen, .int (Int32.ofInt i_p0_state_seenDays), .int (Int32.ofInt i_p0_state_bone), .int (Int32.ofInt z4), .int (Int32.ofInt i_p0_state_days)]))] := hD
    refine lv_iload_n hx hb dX11_crown_29 rfl (lv_at hl 0 rfl) ?_
    obtain ⟨rfl, rfl⟩ := ou2 hf
    rw [hQ]
    exact W.iret hx hb hr (fun t ht hW => ⟨⟨_, (), rfl, rfl, by rw [ht]; exact hP, va_K.moved hW.alike hK, hD⟩, hS.F ht⟩) hS.2.2 dX11_crown_30
  ·
    replace hf := ite_t ((z_eq0 hr1).mp cc) hf
    clear cc
    refine lv_iconst (v := Int32.ofInt (-1 : Int)) hx hb dX11_crown_11 (by decide) ?_
    obtain ⟨rfl, rfl⟩ := ou2 hf
    rw [hQ]
    exact W.iret hx hb hr (fun t ht hW => ⟨⟨_, (), rfl, rfl, by rw [ht]; exact hP, va_K.moved hW.alike hK, hD⟩, hS.F ht⟩) hS.2.2 dX11_crown_12

noncomputable def f_X11_fill (i_p0_rules_seats : Int) (v_p0_state_pieces : (Int → Int)) (x1 : Int) (x2 : Int) : Option (Int × (Int → Int)) := (bd1 (f_X6_hasSeat i_p0_rules_seats x1) (fun (z1 : Int) => (ck (z_r32 z1) (if z1 = (0 : Int) then (some ((-1 : Int), v_p0_state_pieces)) else (ck (z_r32 x2) (if x2 < (0 : Int) then (some ((-1 : Int), v_p0_state_pieces)) else (if x2 ≤ (9 : Int) then (ck (z_ix x1 7) (bnd (v_p0_state_pieces x1) (fun (z4 : Int) => (ck (z_ix x1 7) (bnd (z_up v_p0_state_pieces x1 x2) (fun (w5 : (Int → Int)) => (some (z4, w5)))))))) else (some ((-1 : Int), v_p0_state_pieces)))))))))
abbrev rm_X11_fill : Room := { frames := 1, cells := 0, slots := 0, locals := 21 }
theorem inX11_fill_X11 : ∀ w ∈ wsX110, w ∈ wsX11_fill := by first | exact fun w h => List.mem_cons_of_mem _ (List.mem_append_left _ (List.mem_append_left _ (List.mem_append_right _ h))) | decide +kernel
theorem mwX11_fill_1 : Cond.fieldLink RX11 10 "LadleKings" "rules" "LLadleKings$Rules;" ∈ wsX11_fill := by first | exact List.mem_of_getElem? (i := 1) rfl | decide +kernel
theorem mwX11_fill_2 : Cond.fieldLink RX11 19 "LadleKings" "state" "LLadleKings$State;" ∈ wsX11_fill := by first | exact List.mem_of_getElem? (i := 2) rfl | decide +kernel
theorem inX11_fill_X8 : ∀ w ∈ wsX80, w ∈ wsX11_fill := by first | exact fun w h => List.mem_cons_of_mem _ (List.mem_append_left _ (List.mem_append_right _ h)) | decide +kernel
theorem mwX11_fill_4 : Cond.fieldLink RX11 149 "LadleKings$State" "pieces" "[I" ∈ wsX11_fill := by first | exact List.mem_of_getElem? (i := 3) rfl | decide +kernel
set_option maxHeartbeats 8000000 in
set_option maxRecDepth 100000 in
theorem c_X11_fill (l : Launch) (D : va_G) (G : Nat → ClassId) (sz : Nat) (a_p0 : Nat) (a_p0_rules : Nat) (a_p0_state : Nat) (a_p0_tape : Nat) (a_p0_reader : Nat) (a_p0_kitchen : Nat) (a_p0_luck : Nat) (a_p0_plans : Nat) (a_p0_coups : Nat) (a_p0_past : Nat) (a_p0_fairDays : Nat) (a_p0_images : Nat) (a_p0_imageHeld : Nat) (a_p0_sheets : Nat) (a_p0_rules_need : Nat) (a_p0_rules_kind : Nat) (a_p0_rules_first : Nat) (a_p0_rules_second : Nat) (a_p0_rules_after : Nat) (a_p0_state_pieces : Nat) (a_p0_state_friends : Nat) (a_p0_state_spoons : Nat) (a_p0_state_eaten : Nat) (a_p0_state_seen : Nat) (i_p0_latestFault : Int) (i_p0_latestTear : Int) (i_p0_rules_seats : Int) (i_p0_rules_stirs : Int) (i_p0_state_seenDays : Int) (i_p0_state_bone : Int) (i_p0_state_king : Int) (i_p0_state_days : Int) (v_p0_state_pieces : (Int → Int)) (x1 : Int) (x2 : Int) (r : Int) (o_v_p0_state_pieces : (Int → Int)) (hf : f_X11_fill i_p0_rules_seats v_p0_state_pieces x1 x2 = some (r, o_v_p0_state_pieces)) : Met l yX11_fill wsX11_fill rm_X11_fill (pcG D G [.ref a_p0, .int (Int32.ofInt x1), .int (Int32.ofInt x2)] sz [(a_p0, .inr (11, [.ref a_p0_rules, .ref a_p0_state, .ref a_p0_tape, .ref a_p0_reader, .ref a_p0_kitchen, .ref a_p0_luck, .ref a_p0_plans, .ref a_p0_coups, .ref a_p0_past, .ref a_p0_fairDays, .ref a_p0_images, .ref a_p0_imageHeld, .ref a_p0_sheets, .int (Int32.ofInt i_p0_latestFault), .int (Int32.ofInt i_p0_latestTear)])), (a_p0_rules, .inr (6, [.int (Int32.ofInt i_p0_rules_seats), .int (Int32.ofInt i_p0_rules_stirs), .ref a_p0_rules_need, .ref a_p0_rules_kind, .ref a_p0_rules_first, .ref a_p0_rules_second, .ref a_p0_rules_after])), (a_p0_state, .inr (8, [.ref a_p0_state_pieces, .ref a_p0_state_friends, .ref a_p0_state_spoons, .ref a_p0_state_eaten, .ref a_p0_state_seen, .int (Int32.ofInt i_p0_state_seenDays), .int (Int32.ofInt i_p0_state_bone), .int (Int32.ofInt i_p0_state_king), .int (Int32.ofInt i_p0_state_days)])), (a_p0_state_pieces, .inl (G 1, 7, .inl (zA v_p0_state_pieces)))]) (qcI D G (Int32.ofInt r) [(a_p0, .inr (11, [.ref a_p0_rules, .ref a_p0_state, .ref a_p0_tape, .ref a_p0_reader, .ref a_p0_kitchen, .ref a_p0_luck, .ref a_p0_plans, .ref a_p0_coups, .ref a_p0_past, .ref a_p0_fairDays, .ref a_p0_images, .ref a_p0_imageHeld, .ref a_p0_sheets, .int (Int32.ofInt i_p0_latestFault), .int (Int32.ofInt i_p0_latestTear)])), (a_p0_rules, .inr (6, [.int (Int32.ofInt i_p0_rules_seats), .int (Int32.ofInt i_p0_rules_stirs), .ref a_p0_rules_need, .ref a_p0_rules_kind, .ref a_p0_rules_first, .ref a_p0_rules_second, .ref a_p0_rules_after])), (a_p0_state, .inr (8, [.ref a_p0_state_pieces, .ref a_p0_state_friends, .ref a_p0_state_spoons, .ref a_p0_state_eaten, .ref a_p0_state_seen, .int (Int32.ofInt i_p0_state_seenDays), .int (Int32.ofInt i_p0_state_bone), .int (Int32.ofInt i_p0_state_king), .int (Int32.ofInt i_p0_state_days)])), (a_p0_state_pieces, .inl (G 1, 7, .inl (zA o_v_p0_state_pieces)))] (va_A [(a_p0, .inr (11, [.ref a_p0_rules, .ref a_p0_state, .ref a_p0_tape, .ref a_p0_reader, .ref a_p0_kitchen, .ref a_p0_luck, .ref a_p0_plans, .ref a_p0_coups, .ref a_p0_past, .ref a_p0_fairDays, .ref a_p0_images, .ref a_p0_imageHeld, .ref a_p0_sheets, .int (Int32.ofInt i_p0_latestFault), .int (Int32.ofInt i_p0_latestTear)])), (a_p0_rules, .inr (6, [.int (Int32.ofInt i_p0_rules_seats), .int (Int32.ofInt i_p0_rules_stirs), .ref a_p0_rules_need, .ref a_p0_rules_kind, .ref a_p0_rules_first, .ref a_p0_rules_second, .ref a_p0_rules_after])), (a_p0_state, .inr (8, [.ref a_p0_state_pieces, .ref a_p0_state_friends, .ref a_p0_state_spoons, .ref a_p0_state_eaten, .ref a_p0_state_seen, .int (Int32.ofInt i_p0_state_seenDays), .int (Int32.ofInt i_p0_state_bone), .int (Int32.ofInt i_p0_state_king), .int (Int32.ofInt i_p0_state_days)])), (a_p0_state_pieces, .inl (G 1, 7, .inl (zA v_p0_state_pieces)))] sz)) 0 0 (va_A [(a_p0, .inr (11, [.ref a_p0_rules, .ref a_p0_state, .ref a_p0_tape, .ref a_p0_reader, .ref a_p0_kitchen, .ref a_p0_luck, .ref a_p0_plans, .ref a_p0_coups, .ref a_p0_past, .ref a_p0_fairDays, .ref a_p0_images, .ref a_p0_imageHeld, .ref a_p0_sheets, .int (Int32.ofInt i_p0_latestFault), .int (Int32.ofInt i_p0_latestTear)])), (a_p0_rules, .inr (6, [.int (Int32.ofInt i_p0_rules_seats), .int (Int32.ofInt i_p0_rules_stirs), .ref a_p0_rules_need, .ref a_p0_rules_kind, .ref a_p0_rules_first, .ref a_p0_rules_second, .ref a_p0_rules_after])), (a_p0_state, .inr (8, [.ref a_p0_state_pieces, .ref a_p0_state_friends, .ref a_p0_state_spoons, .ref a_p0_state_eaten, .ref a_p0_state_seen, .int (Int32.ofInt i_p0_state_seenDays), .int (Int32.ofInt i_p0_state_bone), .int (Int32.ofInt i_p0_state_king), .int (Int32.ofInt i_p0_state_days)])), (a_p0_state_pieces, .inl (G 1, 7, .inl (zA v_p0_state_pieces)))] sz) := by
  refine Met.ofW (cc := cX11_fill) (maxL := 4) (ret := (some .int)) (by decide) rfl ?_
  intro p e s m args below meth c s₁ B hml hv
  obtain ⟨rfl, hsz, hP, hK, hD0⟩ := hv
  have hx := B.exec
  have hb := B.bytes
  have hr := B.returns
  have hts := atoms_spec (ws := wsX11_fill) B.pre
  have hown : s.vm.findClass RX11 = some m.cls := findClass_of_methodNamed B.named
  have hlocks := B.notSynchronized
  subst hsz
  have hD := hD0.self (sz := s.heap.size)
  generalize hAe : va_A [(a_p0, .inr (11, [.ref a_p0_rules, .ref a_p0_state, .ref a_p0_tape, .ref a_p0_reader, .ref a_p0_kitchen, .ref a_p0_luck, .ref a_p0_plans, .ref a_p0_coups, .ref a_p0_past, .ref a_p0_fairDays, .ref a_p0_images, .ref a_p0_imageHeld, .ref a_p0_sheets, .int (Int32.ofInt i_p0_latestFault), .int (Int32.ofInt i_p0_latestTear)])), (a_p0_rules, .inr (6, [.int (Int32.ofInt i_p0_rules_seats), .int (Int32.ofInt i_p0_rules_stirs), .ref a_p0_rules_need, .ref a_p0_rules_kind, .ref a_p0_rules_first, .ref a_p0_rules_second, .ref a_p0_rules_after])), (a_p0_state, .inr (8, [.ref a_p0_state_pieces, .ref a_p0_state_friends, .ref a_p0_state_spoons, .ref a_p0_state_eaten, .ref a_p0_state_seen, .int (Int32.ofInt i_p0_state_seenDays), .int (Int32.ofInt i_p0_state_bone), .int (Int32.ofInt i_p0_state_king), .int (Int32.ofInt i_p0_state_days)])), (a_p0_state_pieces, .inl (G 1, 7, .inl (zA v_p0_state_pieces)))] s.heap.size = A at hD ⊢
  have hA : ∀ q : Nat, s.heap.size ≤ q → A q := fun q h => by rw [← hAe]; exact Or.inr h
  clear hAe hD0
  have hS : va_S A s.heap s.heap [] := va_S.rf
  have hl := lv_entry ([.ref a_p0, .int (Int32.ofInt x1), .int (Int32.ofInt x2)]) (n := 4) (Nat.le_of_ble_eq_true rfl)
  rw [lg_entry_eq]
  generalize (lg_sl ([.ref a_p0, .int (Int32.ofInt x1), .int (Int32.ofInt x2)]) ++ List.replicate (4 - (lg_sl ([.ref a_p0, .int (Int32.ofInt x1), .int (Int32.ofInt x2)])).length) Slot.unset).toArray = ls at hl ⊢
  have hl : lv_has ls 4 [(0, .ref a_p0), (1, .int (Int32.ofInt x1)), (2, .int (Int32.ofInt x2))] := hl
  refine W_nameQ (fun Q hQ => ?_)
  obtain ⟨H, hH⟩ : ∃ H, H = s.heap := ⟨_, rfl⟩
  replace hS : va_S A s.heap H [] := by rw [hH]; exact hS
  replace hP : va_P D vwCl [(a_p0, .inr (11, [.ref a_p0_rules, .ref a_p0_state, .ref a_p0_tape, .ref a_p0_reader, .ref a_p0_kitchen, .ref a_p0_luck, .ref a_p0_plans, .ref a_p0_coups, .ref a_p0_past, .ref a_p0_fairDays, .ref a_p0_images, .ref a_p0_imageHeld, .ref a_p0_sheets, .int (Int32.ofInt i_p0_latestFault), .int (Int32.ofInt i_p0_latestTear)])), (a_p0_rules, .inr (6, [.int (Int32.ofInt i_p0_rules_seats), .int (Int32.ofInt i_p0_rules_stirs), .ref a_p0_rules_need, .ref a_p0_rules_kind, .ref a_p0_rules_first, .ref a_p0_rules_second, .ref a_p0_rules_after])), (a_p0_state, .inr (8, [.ref a_p0_state_pieces, .ref a_p0_state_friends, .ref a_p0_state_spoons, .ref a_p0_state_eaten, .ref a_p0_state_seen, .int (Int32.ofInt i_p0_state_seenDays), .int (Int32.ofInt i_p0_state_bone), .int (Int32.ofInt i_p0_state_king), .int (Int32.ofInt i_p0_state_days)])), (a_p0_state_pieces, .inl (G 1, 7, .inl (zA v_p0_state_pieces)))] H := by rw [hH]; exact hP
  rw [← hH]
  clear hH
  unfold f_X11_fill at hf
  refine lv_aload_n hx hb dX11_fill_0 rfl (lv_at hl 0 rfl) ?_
  refine va_get (D := D) (ci := 11) (v := .ref a_p0_rules) (C := RX11) (T := TX11) (N := 15) hx hb hts inX11_fill_X11 hown hK hP 0 rfl rfl 0 (by decide) (hts _ mwX11_fill_1) (fun _ h9 => h9) rfl dX11_fill_1 ?_
  refine lv_iload_n hx hb dX11_fill_4 rfl (lv_at hl 1 rfl) ?_
  have hq := bd1_s hf
  clear hf
  obtain ⟨z1, hcall, hf⟩ := hq
  refine gnI (va_runV (As := [.int (Int32.ofInt x1)]) (rest := []) ⟨hx, hb, hml, hown, hts⟩ (c_X6_hasSeat (l := l) (D := D) (G := G) (sz := H.size) (a_p0 := a_p0_rules) (a_p0_need := a_p0_rules_need) (a_p0_kind := a_p0_rules_kind) (a_p0_first := a_p0_rules_first) (a_p0_second := a_p0_rules_second) (a_p0_after := a_p0_rules_after) (i_p0_seats := i_p0_rules_seats) (i_p0_stirs := i_p0_rules_stirs) (x1 := x1) (r := z1) (hf := hcall)) (cwV 1 hts gX11_fill_X6_hasSeat rfl rfl rfl hdV_yX6_hasSeat_RX6 ⟨Nat.le_of_ble_eq_true rfl, Nat.le_of_ble_eq_true rfl⟩) (preG_V (ci := 6) (q := (RX6, TX6, 7)) (hP.sub [1] rfl) (hD.sub [1] rfl rfl) hK rfl rfl) rfl rfl hl.1 rfl (lv_room (Nat.le_of_ble_eq_true rfl)) dX11_fill_5 ⟨Nat.le_of_ble_eq_true rfl, Nat.le_of_ble_eq_true rfl⟩) hP hD hS hA [1] rfl (fun H locs hP hD hS => ?_)
  clear hcall
  have hr1 := ck_c hf
  replace hf := ck_r hf
  refine lv_if_eq (tgt := 21) hx hb dX11_fill_8 (by decide) (fun cc => ?_) (fun cc => ?_)
  ·
    replace hf := ite_t ((z_eq0 hr1).mp cc) hf
    clear cc
    refine lv_iconst (v := Int32.ofInt (-1 : Int)) hx hb dX11_fill_21 (by decide) ?_
    obtain ⟨rfl, rfl⟩ := ou2 hf
    rw [hQ]
    exact W.iret hx hb hr (fun t ht hW => ⟨⟨_, (), rfl, rfl, by rw [ht]; exact hP, va_K.moved hW.alike hK, hD⟩, hS.F ht⟩) hS.2.2 dX11_fill_22
  ·
    replace hf := ite_f (fun h9 => cc ((z_eq0 hr1).mpr h9)) hf
    clear cc
    refine lv_iload_n hx hb dX11_fill_11 rfl (lv_at hl 2 rfl) ?_
    have hr2 := ck_c hf
    replace hf := ck_r hf
    refine lv_if_lt (tgt := 21) hx hb dX11_fill_12 (by decide) (fun cc => ?_) (fun cc => ?_)
    ·
      replace hf := ite_t ((z_lt0 hr2).mp cc) hf
      clear cc
      refine lv_iconst (v := Int32.ofInt (-1 : Int)) hx hb dX11_fill_21 (by decide) ?_
      obtain ⟨rfl, rfl⟩ := ou2 hf
      rw [hQ]
      exact W.iret hx hb hr (fun t ht hW => ⟨⟨_, (), rfl, rfl, by rw [ht]; exact hP, va_K.moved hW.alike hK, hD⟩, hS.F ht⟩) hS.2.2 dX11_fill_22
    ·
      replace hf := ite_f (fun h9 => cc ((z_lt0 hr2).mpr h9)) hf
      clear cc
      refine lv_iload_n hx hb dX11_fill_15 rfl (lv_at hl 2 rfl) ?_
      refine lv_bipush (v := Int32.ofInt (9 : Int)) hx hb dX11_fill_16 (by decide) ?_
      refine lv_icmp_le (tgt := 23) hx hb dX11_fill_18 (by decide) (fun cc => ?_) (fun cc => ?_)
      ·
        replace hf := ite_t ((z_le hr2 (by decide)).mp cc) hf
        clear cc
        refine lv_aload_n hx hb dX11_fill_23 rfl (lv_at hl 0 rfl) ?_
        refine va_get (D := D) (ci := 11) (v := .ref a_p0_state) (C := RX11) (T := TX11) (N := 15) hx hb hts inX11_fill_X11 hown hK hP 0 rfl rfl 1 (by decide) (hts _ mwX11_fill_2) (fun _ h9 => h9) rfl dX11_fill_24 ?_
        refine va_get (D := D) (ci := 8) (v := .ref a_p0_state_pieces) (C := RX8) (T := TX8) (N := 9) hx hb hts inX11_fill_X8 hown hK hP 2 rfl rfl 0 (by decide) (hts _ mwX11_fill_4) (fun _ h9 => h9) rfl dX11_fill_27 ?_
        refine lv_iload_n hx hb dX11_fill_30 rfl (lv_at hl 1 rfl) ?_
        have hc := ck_c hf
        replace hf := ck_r hf
        refine va_iald hx hb hK hP 3 1 rfl rfl (z_ix_in hc) dX11_fill_31 (z_ci (z_ald v_p0_state_pieces hc) ?_)
        clear hc
        refine z_topi (fun z4 ez => ?_)
        replace hf := bnd_s hf ez
        clear ez
        refine lv_istore_n (lv' := [(3, .int (Int32.ofInt z4)), (0, .ref a_p0), (1, .int (Int32.ofInt x1)), (2, .int (Int32.ofInt x2))]) hx hb dX11_fill_32 rfl hl (by decide) rfl (fun ls hl => ?_)
        refine lv_aload_n hx hb dX11_fill_33 rfl (lv_at hl 1 rfl) ?_
        refine va_get (D := D) (ci := 11) (v := .ref a_p0_state) (C := RX11) (T := TX11) (N := 15) hx hb hts inX11_fill_X11 hown hK hP 0 rfl rfl 1 (by decide) (hts _ mwX11_fill_2) (fun _ h9 => h9) rfl dX11_fill_34 ?_
        refine va_get (D := D) (ci := 8) (v := .ref a_p0_state_pieces) (C := RX8) (T := TX8) (N := 9) hx hb hts inX11_fill_X8 hown hK hP 2 rfl rfl 0 (by decide) (hts _ mwX11_fill_4) (fun _ h9 => h9) rfl dX11_fill_37 ?_
        refine lv_iload_n hx hb dX11_fill_40 rfl (lv_at hl 2 rfl) ?_
        refine lv_iload_n hx hb dX11_fill_41 rfl (lv_at hl 3 rfl) ?_
        have hc := ck_c hf
        replace hf := ck_r hf
        refine zs_iast (wf := fun w5 => [(a_p0, .inr (11, [.ref a_p0_rules, .ref a_p0_state, .ref a_p0_tape, .ref a_p0_reader, .ref a_p0_kitchen, .ref a_p0_luck, .ref a_p0_plans, .ref a_p0_coups, .ref a_p0_past, .ref a_p0_fairDays, .ref a_p0_images, .ref a_p0_imageHeld, .ref a_p0_sheets, .int (Int32.ofInt i_p0_latestFault), .int (Int32.ofInt i_p0_latestTear)])), (a_p0_rules, .inr (6, [.int (Int32.ofInt i_p0_rules_seats), .int (Int32.ofInt i_p0_rules_stirs), .ref a_p0_rules_need, .ref a_p0_rules_kind, .ref a_p0_rules_first, .ref a_p0_rules_second, .ref a_p0_rules_after])), (a_p0_state, .inr (8, [.ref a_p0_state_pieces, .ref a_p0_state_friends, .ref a_p0_state_spoons, .ref a_p0_state_eaten, .ref a_p0_state_seen, .int (Int32.ofInt i_p0_state_seenDays), .int (Int32.ofInt i_p0_state_bone), .int (Int32.ofInt i_p0_state_king), .int (Int32.ofInt i_p0_state_days)])), (a_p0_state_pieces, .inl (G 1, 7, .inl (zA w5)))]) hx hb hK hP hD hS 3 1 rfl rfl hc dX11_fill_42 (fun _ => rfl) (fun w5 ez H locs hP hD hS => ?_)
        replace hf := bnd_s hf ez
        clear ez hc
        refine lv_iload_n hx hb dX11_fill_43 rfl (lv_at hl 0 rfl) ?_
        obtain ⟨rfl, rfl⟩ := ou2 hf
        rw [hQ]
        exact W.iret hx hb hr (fun t ht hW => ⟨⟨_, (), rfl, rfl, by rw [ht]; exact hP, va_K.moved hW.alike hK, hD⟩, hS.F ht⟩) hS.2.2 dX11_fill_44
      ·
        replace hf := ite_f (fun h9 => cc ((z_le hr2 (by decide)).mpr h9)) hf
        clear cc
        refine lv_iconst (v := Int32.ofInt (-1 : Int)) hx hb dX11_fill_21 (by decide) ?_
        obtain ⟨rfl, rfl⟩ := ou2 hf
        rw [hQ]
        exact W.iret hx hb hr (fun t ht hW => ⟨⟨_, (), rfl, rfl, by rw [ht]; exact hP, va_K.moved hW.alike hK, hD⟩, hS.F ht⟩) hS.2.2 dX11_fill_22

noncomputable def f_X11_bowl (i_p0_rules_seats : Int) (i_p0_rules_stirs : Int) (v_p0_rules_after : (Int → Int)) (v_p0_state_pieces : (Int → Int)) (v_p0_state_friends : (Int → Int)) (v_p0_kitchen_places : (Int → Int)) (v_p0_kitchen_holders : (Int → Int)) (v_p0_kitchen_stirred : (Int → Int)) (x1 : Int) (x2 : Int) (x3 : Int) : Option (Int × (Int → Int) × (Int → Int) × (Int → Int)) := (bd1 (f_X6_hasSeat i_p0_rules_seats x1) (fun (z1 : Int) => (ck (z_r32 z1) (if z1 = (0 : Int) then (some ((-1 : Int), v_p0_kitchen_places, v_p0_kitchen_holders, v_p0_kitchen_stirred)) else (bd1 (f_X6_hasSeat i_p0_rules_seats x2) (fun (z3 : Int) => (ck (z_r32 z3) (if z3 = (0 : Int) then (some ((-1 : Int), v_p0_kitchen_places, v_p0_kitchen_holders, v_p0_kitchen_stirred)) else (bd1 (f_X6_hasStir i_p0_rules_stirs x3) (fun (z5 : Int) => (ck (z_r32 z5) (if z5 = (0 : Int) then (some ((-1 : Int), v_p0_kitchen_places, v_p0_kitchen_holders, v_p0_kitchen_stirred)) else (bd2 (f_X2_serve i_p0_rules_seats v_p0_state_friends v_p0_kitchen_places v_p0_kitchen_holders x1) (fun (w7 : (Int → Int)) (w8 : (Int → Int)) => (bd1 (f_X2_stirPot i_p0_rules_seats v_p0_rules_after v_p0_state_pieces v_p0_kitchen_stirred x3) (fun (w9 : (Int → Int)) => (bd1 (f_X2_bowlOf w7 w9 x1 x2) (fun (z10 : Int) => (some (z10, w7, w8, w9))))))))))))))))))))
abbrev rm_X11_bowl : Room := { frames := 3, cells := 0, slots := 0, locals := 67 }
theorem inX11_bowl_X11 : ∀ w ∈ wsX110, w ∈ wsX11_bowl := by first | exact fun w h => List.mem_cons_of_mem _ (List.mem_append_left _ (List.mem_append_left _ (List.mem_append_left _ (List.mem_append_right _ h)))) | decide +kernel
theorem mwX11_bowl_1 : Cond.fieldLink RX11 10 "LadleKings" "rules" "LLadleKings$Rules;" ∈ wsX11_bowl := by first | exact List.mem_of_getElem? (i := 1) rfl | decide +kernel
theorem mwX11_bowl_2 : Cond.fieldLink RX11 44 "LadleKings" "kitchen" "LLadleKings$Kitchen;" ∈ wsX11_bowl := by first | exact List.mem_of_getElem? (i := 2) rfl | decide +kernel
set_option maxHeartbeats 8000000 in
set_option maxRecDepth 100000 in
theorem c_X11_bowl (l : Launch) (D : va_G) (G : Nat → ClassId) (sz : Nat) (a_p0 : Nat) (a_p0_rules : Nat) (a_p0_state : Nat) (a_p0_tape : Nat) (a_p0_reader : Nat) (a_p0_kitchen : Nat) (a_p0_luck : Nat) (a_p0_plans : Nat) (a_p0_coups : Nat) (a_p0_past : Nat) (a_p0_fairDays : Nat) (a_p0_images : Nat) (a_p0_imageHeld : Nat) (a_p0_sheets : Nat) (a_p0_rules_need : Nat) (a_p0_rules_kind : Nat) (a_p0_rules_first : Nat) (a_p0_rules_second : Nat) (a_p0_rules_after : Nat) (a_p0_state_pieces : Nat) (a_p0_state_friends : Nat) (a_p0_state_spoons : Nat) (a_p0_state_eaten : Nat) (a_p0_state_seen : Nat) (a_p0_kitchen_places : Nat) (a_p0_kitchen_holders : Nat) (a_p0_kitchen_stirred : Nat) (i_p0_latestFault : Int) (i_p0_latestTear : Int) (i_p0_rules_seats : Int) (i_p0_rules_stirs : Int) (v_p0_rules_after : (Int → Int)) (i_p0_state_seenDays : Int) (i_p0_state_bone : Int) (i_p0_state_king : Int) (i_p0_state_days : Int) (v_p0_state_pieces : (Int → Int)) (v_p0_state_friends : (Int → Int)) (v_p0_kitchen_places : (Int → Int)) (v_p0_kitchen_holders : (Int → Int)) (v_p0_kitchen_stirred : (Int → Int)) (x1 : Int) (x2 : Int) (x3 : Int) (r : Int) (o_v_p0_kitchen_places : (Int → Int)) (o_v_p0_kitchen_holders : (Int → Int)) (o_v_p0_kitchen_stirred : (Int → Int)) (hf : f_X11_bowl i_p0_rules_seats i_p0_rules_stirs v_p0_rules_after v_p0_state_pieces v_p0_state_friends v_p0_kitchen_places v_p0_kitchen_holders v_p0_kitchen_stirred x1 x2 x3 = some (r, o_v_p0_kitchen_places, o_v_p0_kitchen_holders, o_v_p0_kitchen_stirred)) : Met l yX11_bowl wsX11_bowl rm_X11_bowl (pcG D G [.ref a_p0, .int (Int32.ofInt x1), .int (Int32.ofInt x2), .int (Int32.ofInt x3)] sz [(a_p0, .inr (11, [.ref a_p0_rules, .ref a_p0_state, .ref a_p0_tape, .ref a_p0_reader, .ref a_p0_kitchen, .ref a_p0_luck, .ref a_p0_plans, .ref a_p0_coups, .ref a_p0_past, .ref a_p0_fairDays, .ref a_p0_images, .ref a_p0_imageHeld, .ref a_p0_sheets, .int (Int32.ofInt i_p0_latestFault), .int (Int32.ofInt i_p0_latestTear)])), (a_p0_rules, .inr (6, [.int (Int32.ofInt i_p0_rules_seats), .int (Int32.ofInt i_p0_rules_stirs), .ref a_p0_rules_need, .ref a_p0_rules_kind, .ref a_p0_rules_first, .ref a_p0_rules_second, .ref a_p0_rules_after])), (a_p0_rules_after, .inl (G 1, 35, .inl (zA v_p0_rules_after))), (a_p0_state, .inr (8, [.ref a_p0_state_pieces, .ref a_p0_state_friends, .ref a_p0_state_spoons, .ref a_p0_state_eaten, .ref a_p0_state_seen, .int (Int32.ofInt i_p0_state_seenDays), .int (Int32.ofInt i_p0_state_bone), .int (Int32.ofInt i_p0_state_king), .int (Int32.ofInt i_p0_state_days)])), (a_p0_state_pieces, .inl (G 1, 7, .inl (zA v_p0_state_pieces))), (a_p0_state_friends, .inl (G 1, 7, .inl (zA v_p0_state_friends))), (a_p0_kitchen, .inr (2, [.ref a_p0_rules, .ref a_p0_state, .ref a_p0_kitchen_places, .ref a_p0_kitchen_holders, .ref a_p0_kitchen_stirred])), (a_p0_kitchen_places, .inl (G 1, 49, .inl (zA v_p0_kitchen_places))), (a_p0_kitchen_holders, .inl (G 1, 49, .inl (zA v_p0_kitchen_holders))), (a_p0_kitchen_stirred, .inl (G 1, 7, .inl (zA v_p0_kitchen_stirred)))]) (qcI D G (Int32.ofInt r) [(a_p0, .inr (11, [.ref a_p0_rules, .ref a_p0_state, .ref a_p0_tape, .ref a_p0_reader, .ref a_p0_kitchen, .ref a_p0_luck, .ref a_p0_plans, .ref a_p0_coups, .ref a_p0_past, .ref a_p0_fairDays, .ref a_p0_images, .ref a_p0_imageHeld, .ref a_p0_sheets, .int (Int32.ofInt i_p0_latestFault), .int (Int32.ofInt i_p0_latestTear)])), (a_p0_rules, .inr (6, [.int (Int32.ofInt i_p0_rules_seats), .int (Int32.ofInt i_p0_rules_stirs), .ref a_p0_rules_need, .ref a_p0_rules_kind, .ref a_p0_rules_first, .ref a_p0_rules_second, .ref a_p0_rules_after])), (a_p0_rules_after, .inl (G 1, 35, .inl (zA v_p0_rules_after))), (a_p0_state, .inr (8, [.ref a_p0_state_pieces, .ref a_p0_state_friends, .ref a_p0_state_spoons, .ref a_p0_state_eaten, .ref a_p0_state_seen, .int (Int32.ofInt i_p0_state_seenDays), .int (Int32.ofInt i_p0_state_bone), .int (Int32.ofInt i_p0_state_king), .int (Int32.ofInt i_p0_state_days)])), (a_p0_state_pieces, .inl (G 1, 7, .inl (zA v_p0_state_pieces))), (a_p0_state_friends, .inl (G 1, 7, .inl (zA v_p0_state_friends))), (a_p0_kitchen, .inr (2, [.ref a_p0_rules, .ref a_p0_state, .ref a_p0_kitchen_places, .ref a_p0_kitchen_holders, .ref a_p0_kitchen_stirred])), (a_p0_kitchen_places, .inl (G 1, 49, .inl (zA o_v_p0_kitchen_places))), (a_p0_kitchen_holders, .inl (G 1, 49, .inl (zA o_v_p0_kitchen_holders))), (a_p0_kitchen_stirred, .inl (G 1, 7, .inl (zA o_v_p0_kitchen_stirred)))] (va_A [(a_p0, .inr (11, [.ref a_p0_rules, .ref a_p0_state, .ref a_p0_tape, .ref a_p0_reader, .ref a_p0_kitchen, .ref a_p0_luck, .ref a_p0_plans, .ref a_p0_coups, .ref a_p0_past, .ref a_p0_fairDays, .ref a_p0_images, .ref a_p0_imageHeld, .ref a_p0_sheets, .int (Int32.ofInt i_p0_latestFault), .int (Int32.ofInt i_p0_latestTear)])), (a_p0_rules, .inr (6, [.int (Int32.ofInt i_p0_rules_seats), .int (Int32.ofInt i_p0_rules_stirs), .ref a_p0_rules_need, .ref a_p0_rules_kind, .ref a_p0_rules_first, .ref a_p0_rules_second, .ref a_p0_rules_after])), (a_p0_rules_after, .inl (G 1, 35, .inl (zA v_p0_rules_after))), (a_p0_state, .inr (8, [.ref a_p0_state_pieces, .ref a_p0_state_friends, .ref a_p0_state_spoons, .ref a_p0_state_eaten, .ref a_p0_state_seen, .int (Int32.ofInt i_p0_state_seenDays), .int (Int32.ofInt i_p0_state_bone), .int (Int32.ofInt i_p0_state_king), .int (Int32.ofInt i_p0_state_days)])), (a_p0_state_pieces, .inl (G 1, 7, .inl (zA v_p0_state_pieces))), (a_p0_state_friends, .inl (G 1, 7, .inl (zA v_p0_state_friends))), (a_p0_kitchen, .inr (2, [.ref a_p0_rules, .ref a_p0_state, .ref a_p0_kitchen_places, .ref a_p0_kitchen_holders, .ref a_p0_kitchen_stirred])), (a_p0_kitchen_places, .inl (G 1, 49, .inl (zA v_p0_kitchen_places))), (a_p0_kitchen_holders, .inl (G 1, 49, .inl (zA v_p0_kitchen_holders))), (a_p0_kitchen_stirred, .inl (G 1, 7, .inl (zA v_p0_kitchen_stirred)))] sz)) 0 0 (va_A [(a_p0, .inr (11, [.ref a_p0_rules, .ref a_p0_state, .ref a_p0_tape, .ref a_p0_reader, .ref a_p0_kitchen, .ref a_p0_luck, .ref a_p0_plans, .ref a_p0_coups, .ref a_p0_past, .ref a_p0_fairDays, .ref a_p0_images, .ref a_p0_imageHeld, .ref a_p0_sheets, .int (Int32.ofInt i_p0_latestFault), .int (Int32.ofInt i_p0_latestTear)])), (a_p0_rules, .inr (6, [.int (Int32.ofInt i_p0_rules_seats), .int (Int32.ofInt i_p0_rules_stirs), .ref a_p0_rules_need, .ref a_p0_rules_kind, .ref a_p0_rules_first, .ref a_p0_rules_second, .ref a_p0_rules_after])), (a_p0_rules_after, .inl (G 1, 35, .inl (zA v_p0_rules_after))), (a_p0_state, .inr (8, [.ref a_p0_state_pieces, .ref a_p0_state_friends, .ref a_p0_state_spoons, .ref a_p0_state_eaten, .ref a_p0_state_seen, .int (Int32.ofInt i_p0_state_seenDays), .int (Int32.ofInt i_p0_state_bone), .int (Int32.ofInt i_p0_state_king), .int (Int32.ofInt i_p0_state_days)])), (a_p0_state_pieces, .inl (G 1, 7, .inl (zA v_p0_state_pieces))), (a_p0_state_friends, .inl (G 1, 7, .inl (zA v_p0_state_friends))), (a_p0_kitchen, .inr (2, [.ref a_p0_rules, .ref a_p0_state, .ref a_p0_kitchen_places, .ref a_p0_kitchen_holders, .ref a_p0_kitchen_stirred])), (a_p0_kitchen_places, .inl (G 1, 49, .inl (zA v_p0_kitchen_places))), (a_p0_kitchen_holders, .inl (G 1, 49, .inl (zA v_p0_kitchen_holders))), (a_p0_kitchen_stirred, .inl (G 1, 7, .inl (zA v_p0_kitchen_stirred)))] sz) := by
  refine Met.ofW (cc := cX11_bowl) (maxL := 4) (ret := (some .int)) (by decide) rfl ?_
  intro p e s m args below meth c s₁ B hml hv
  obtain ⟨rfl, hsz, hP, hK, hD0⟩ := hv
  have hx := B.exec
  have hb := B.bytes
  have hr := B.returns
  have hts := atoms_spec (ws := wsX11_bowl) B.pre
  have hown : s.vm.findClass RX11 = some m.cls := findClass_of_methodNamed B.named
  have hlocks := B.notSynchronized
  subst hsz
  have hD := hD0.self (sz := s.heap.size)
  generalize hAe : va_A [(a_p0, .inr (11, [.ref a_p0_rules, .ref a_p0_state, .ref a_p0_tape, .ref a_p0_reader, .ref a_p0_kitchen, .ref a_p0_luck, .ref a_p0_plans, .ref a_p0_coups, .ref a_p0_past, .ref a_p0_fairDays, .ref a_p0_images, .ref a_p0_imageHeld, .ref a_p0_sheets, .int (Int32.ofInt i_p0_latestFault), .int (Int32.ofInt i_p0_latestTear)])), (a_p0_rules, .inr (6, [.int (Int32.ofInt i_p0_rules_seats), .int (Int32.ofInt i_p0_rules_stirs), .ref a_p0_rules_need, .ref a_p0_rules_kind, .ref a_p0_rules_first, .ref a_p0_rules_second, .ref a_p0_rules_after])), (a_p0_rules_after, .inl (G 1, 35, .inl (zA v_p0_rules_after))), (a_p0_state, .inr (8, [.ref a_p0_state_pieces, .ref a_p0_state_friends, .ref a_p0_state_spoons, .ref a_p0_state_eaten, .ref a_p0_state_seen, .int (Int32.ofInt i_p0_state_seenDays), .int (Int32.ofInt i_p0_state_bone), .int (Int32.ofInt i_p0_state_king), .int (Int32.ofInt i_p0_state_days)])), (a_p0_state_pieces, .inl (G 1, 7, .inl (zA v_p0_state_pieces))), (a_p0_state_friends, .inl (G 1, 7, .inl (zA v_p0_state_friends))), (a_p0_kitchen, .inr (2, [.ref a_p0_rules, .ref a_p0_state, .ref a_p0_kitchen_places, .ref a_p0_kitchen_holders, .ref a_p0_kitchen_stirred])), (a_p0_kitchen_places, .inl (G 1, 49, .inl (zA v_p0_kitchen_places))), (a_p0_kitchen_holders, .inl (G 1, 49, .inl (zA v_p0_kitchen_holders))), (a_p0_kitchen_stirred, .inl (G 1, 7, .inl (zA v_p0_kitchen_stirred)))] s.heap.size = A at hD ⊢
  have hA : ∀ q : Nat, s.heap.size ≤ q → A q := fun q h => by rw [← hAe]; exact Or.inr h
  clear hAe hD0
  have hS : va_S A s.heap s.heap [] := va_S.rf
  have hl := lv_entry ([.ref a_p0, .int (Int32.ofInt x1), .int (Int32.ofInt x2), .int (Int32.ofInt x3)]) (n := 4) (Nat.le_of_ble_eq_true rfl)
  rw [lg_entry_eq]
  generalize (lg_sl ([.ref a_p0, .int (Int32.ofInt x1), .int (Int32.ofInt x2), .int (Int32.ofInt x3)]) ++ List.replicate (4 - (lg_sl ([.ref a_p0, .int (Int32.ofInt x1), .int (Int32.ofInt x2), .int (Int32.ofInt x3)])).length) Slot.unset).toArray = ls at hl ⊢
  have hl : lv_has ls 4 [(0, .ref a_p0), (1, .int (Int32.ofInt x1)), (2, .int (Int32.ofInt x2)), (3, .int (Int32.ofInt x3))] := hl
  refine W_nameQ (fun Q hQ => ?_)
  obtain ⟨H, hH⟩ : ∃ H, H = s.heap := ⟨_, rfl⟩
  replace hS : va_S A s.heap H [] := by rw [hH]; exact hS
  replace hP : va_P D vwCl [(a_p0, .inr (11, [.ref a_p0_rules, .ref a_p0_state, .ref a_p0_tape, .ref a_p0_reader, .ref a_p0_kitchen, .ref a_p0_luck, .ref a_p0_plans, .ref a_p0_coups, .ref a_p0_past, .ref a_p0_fairDays, .ref a_p0_images, .ref a_p0_imageHeld, .ref a_p0_sheets, .int (Int32.ofInt i_p0_latestFault), .int (Int32.ofInt i_p0_latestTear)])), (a_p0_rules, .inr (6, [.int (Int32.ofInt i_p0_rules_seats), .int (Int32.ofInt i_p0_rules_stirs), .ref a_p0_rules_need, .ref a_p0_rules_kind, .ref a_p0_rules_first, .ref a_p0_rules_second, .ref a_p0_rules_after])), (a_p0_rules_after, .inl (G 1, 35, .inl (zA v_p0_rules_after))), (a_p0_state, .inr (8, [.ref a_p0_state_pieces, .ref a_p0_state_friends, .ref a_p0_state_spoons, .ref a_p0_state_eaten, .ref a_p0_state_seen, .int (Int32.ofInt i_p0_state_seenDays), .int (Int32.ofInt i_p0_state_bone), .int (Int32.ofInt i_p0_state_king), .int (Int32.ofInt i_p0_state_days)])), (a_p0_state_pieces, .inl (G 1, 7, .inl (zA v_p0_state_pieces))), (a_p0_state_friends, .inl (G 1, 7, .inl (zA v_p0_state_friends))), (a_p0_kitchen, .inr (2, [.ref a_p0_rules, .ref a_p0_state, .ref a_p0_kitchen_places, .ref a_p0_kitchen_holders, .ref a_p0_kitchen_stirred])), (a_p0_kitchen_places, .inl (G 1, 49, .inl (zA v_p0_kitchen_places))), (a_p0_kitchen_holders, .inl (G 1, 49, .inl (zA v_p0_kitchen_holders))), (a_p0_kitchen_stirred, .inl (G 1, 7, .inl (zA v_p0_kitchen_stirred)))] H := by rw [hH]; exact hP
  rw [← hH]
  clear hH
  unfold f_X11_bowl at hf
  refine lv_aload_n hx hb dX11_bowl_0 rfl (lv_at hl 0 rfl) ?_
  refine va_get (D := D) (ci := 11) (v := .ref a_p0_rules) (C := RX11) (T := TX11) (N := 15) hx hb hts inX11_bowl_X11 hown hK hP 0 rfl rfl 0 (by decide) (hts _ mwX11_bowl_1) (fun _ h9 => h9) rfl dX11_bowl_1 ?_
  refine lv_iload_n hx hb dX11_bowl_4 rfl (lv_at hl 1 rfl) ?_
  have hq := bd1_s hf
  clear hf
  obtain ⟨z1, hcall, hf⟩ := hq
  refine gnI (va_runV (As := [.int (Int32.ofInt x1)]) (rest := []) ⟨hx, hb, hml, hown, hts⟩ (c_X6_hasSeat (l := l) (D := D) (G := G) (sz := H.size) (a_p0 := a_p0_rules) (a_p0_need := a_p0_rules_need) (a_p0_kind := a_p0_rules_kind) (a_p0_first := a_p0_rules_first) (a_p0_second := a_p0_rules_second) (a_p0_after := a_p0_rules_after) (i_p0_seats := i_p0_rules_seats) (i_p0_stirs := i_p0_rules_stirs) (x1 := x1) (r := z1) (hf := hcall)) (cwV 1 hts gX11_bowl_X6_hasSeat rfl rfl rfl hdV_yX6_hasSeat_RX6 ⟨Nat.le_of_ble_eq_true rfl, Nat.le_of_ble_eq_true rfl⟩) (preG_V (ci := 6) (q := (RX6, TX6, 7)) (hP.sub [1] rfl) (hD.sub [1] rfl rfl) hK rfl rfl) rfl rfl hl.1 rfl (lv_room (Nat.le_of_ble_eq_true rfl)) dX11_bowl_5 ⟨Nat.le_of_ble_eq_true rfl, Nat.le_of_ble_eq_true rfl⟩) hP hD hS hA [1] rfl (fun H locs hP hD hS => ?_)
  clear hcall
  have hr1 := ck_c hf
  replace hf := ck_r hf
  refine lv_if_eq (tgt := 33) hx hb dX11_bowl_8 (by decide) (fun cc => ?_) (fun cc => ?_)
  ·
    replace hf := ite_t ((z_eq0 hr1).mp cc) hf
    clear cc
    refine lv_iconst (v := Int32.ofInt (-1 : Int)) hx hb dX11_bowl_33 (by decide) ?_
    obtain ⟨rfl, rfl, rfl, rfl⟩ := ou4 hf
    rw [hQ]
    exact W.iret hx hb hr (fun t ht hW => ⟨⟨_, (), rfl, rfl, by rw [ht]; exact hP, va_K.moved hW.alike hK, hD⟩, hS.F ht⟩) hS.2.2 dX11_bowl_34
  ·
    replace hf := ite_f (fun h9 => cc ((z_eq0 hr1).mpr h9)) hf
    clear cc
    refine lv_aload_n hx hb dX11_bowl_11 rfl (lv_at hl 0 rfl) ?_
    refine va_get (D := D) (ci := 11) (v := .ref a_p0_rules) (C := RX11) (T := TX11) (N := 15) hx hb hts inX11_bowl_X11 hown hK hP 0 rfl rfl 0 (by decide) (hts _ mwX11_bowl_1) (fun _ h9 => h9) rfl dX11_bowl_12 ?_
    refine lv_iload_n hx hb dX11_bowl_15 rfl (lv_at hl 2 rfl) ?_
    have hq := bd1_s hf
    clear hf
    obtain ⟨z3, hcall, hf⟩ := hq
    refine gnI (va_runV (As := [.int (Int32.ofInt x2)]) (rest := []) ⟨hx, hb, hml, hown, hts⟩ (c_X6_hasSeat (l := l) (D := D) (G := G) (sz := H.size) (a_p0 := a_p0_rules) (a_p0_need := a_p0_rules_need) (a_p0_kind := a_p0_rules_kind) (a_p0_first := a_p0_rules_first) (a_p0_second := a_p0_rules_second) (a_p0_after := a_p0_rules_after) (i_p0_seats := i_p0_rules_seats) (i_p0_stirs := i_p0_rules_stirs) (x1 := x2) (r := z3) (hf := hcall)) (cwV 1 hts gX11_bowl_X6_hasSeat rfl rfl rfl hdV_yX6_hasSeat_RX6 ⟨Nat.le_of_ble_eq_true rfl, Nat.le_of_ble_eq_true rfl⟩) (preG_V (ci := 6) (q := (RX6, TX6, 7)) (hP.sub [1] rfl) (hD.sub [1] rfl rfl) hK rfl rfl) rfl rfl hl.1 rfl (lv_room (Nat.le_of_ble_eq_true rfl)) dX11_bowl_16 ⟨Nat.le_of_ble_eq_true rfl, Nat.le_of_ble_eq_true rfl⟩) hP hD hS hA [1] rfl (fun H locs hP hD hS => ?_)
    clear hcall
    have hr3 := ck_c hf
    replace hf := ck_r hf
    refine lv_if_eq (tgt := 33) hx hb dX11_bowl_19 (by decide) (fun cc => ?_) (fun cc => ?_)
    ·
      replace hf := ite_t ((z_eq0 hr3).mp cc) hf
      clear cc
      refine lv_iconst (v := Int32.ofInt (-1 : Int)) hx hb dX11_bowl_33 (by decide) ?_
      obtain ⟨rfl, rfl, rfl, rfl⟩ := ou4 hf
      rw [hQ]
      exact W.iret hx hb hr (fun t ht hW => ⟨⟨_, (), rfl, rfl, by rw [ht]; exact hP, va_K.moved hW.alike hK, hD⟩, hS.F ht⟩) hS.2.2 dX11_bowl_34
    ·
      replace hf := ite_f (fun h9 => cc ((z_eq0 hr3).mpr h9)) hf
      clear cc
      refine lv_aload_n hx hb dX11_bowl_22 rfl (lv_at hl 0 rfl) ?_
      refine va_get (D := D) (ci := 11) (v := .ref a_p0_rules) (C := RX11) (T := TX11) (N := 15) hx hb hts inX11_bowl_X11 hown hK hP 0 rfl rfl 0 (by decide) (hts _ mwX11_bowl_1) (fun _ h9 => h9) rfl dX11_bowl_23 ?_
      refine lv_iload_n hx hb dX11_bowl_26 rfl (lv_at hl 3 rfl) ?_
      have hq := bd1_s hf
      clear hf
      obtain ⟨z5, hcall, hf⟩ := hq
      refine gnI (va_runV (As := [.int (Int32.ofInt x3)]) (rest := []) ⟨hx, hb, hml, hown, hts⟩ (c_X6_hasStir (l := l) (D := D) (G := G) (sz := H.size) (a_p0 := a_p0_rules) (a_p0_need := a_p0_rules_need) (a_p0_kind := a_p0_rules_kind) (a_p0_first := a_p0_rules_first) (a_p0_second := a_p0_rules_second) (a_p0_after := a_p0_rules_after) (i_p0_seats := i_p0_rules_seats) (i_p0_stirs := i_p0_rules_stirs) (x1 := x3) (r := z5) (hf := hcall)) (cwV 1 hts gX11_bowl_X6_hasStir rfl rfl rfl hdV_yX6_hasStir_RX6 ⟨Nat.le_of_ble_eq_true rfl, Nat.le_of_ble_eq_true rfl⟩) (preG_V (ci := 6) (q := (RX6, TX6, 7)) (hP.sub [1] rfl) (hD.sub [1] rfl rfl) hK rfl rfl) rfl rfl hl.1 rfl (lv_room (Nat.le_of_ble_eq_true rfl)) dX11_bowl_27 ⟨Nat.le_of_ble_eq_true rfl, Nat.le_of_ble_eq_true rfl⟩) hP hD hS hA [1] rfl (fun H locs hP hD hS => ?_)
      clear hcall
      have hr5 := ck_c hf
      replace hf := ck_r hf
      refine lv_if_ne (tgt := 35) hx hb dX11_bowl_30 (by decide) (fun cc => ?_) (fun cc => ?_)
      ·
        replace hf := ite_f (fun h9 => cc ((z_eq0 hr5).mpr h9)) hf
        clear cc
        refine lv_aload_n hx hb dX11_bowl_35 rfl (lv_at hl 0 rfl) ?_
        refine va_get (D := D) (ci := 11) (v := .ref a_p0_kitchen) (C := RX11) (T := TX11) (N := 15) hx hb hts inX11_bowl_X11 hown hK hP 0 rfl rfl 4 (by decide) (hts _ mwX11_bowl_2) (fun _ h9 => h9) rfl dX11_bowl_36 ?_
        refine lv_iload_n hx hb dX11_bowl_39 rfl (lv_at hl 1 rfl) ?_
        have hq := bd2_s hf
        clear hf
        obtain ⟨w7, w8, hcall, hf⟩ := hq
        refine gsV (ws' := [(a_p0, .inr (11, [.ref a_p0_rules, .ref a_p0_state, .ref a_p0_tape, .ref a_p0_reader, .ref a_p0_kitchen, .ref a_p0_luck, .ref a_p0_plans, .ref a_p0_coups, .ref a_p0_past, .ref a_p0_fairDays, .ref a_p0_images, .ref a_p0_imageHeld, .ref a_p0_sheets, .int (Int32.ofInt i_p0_latestFault), .int (Int32.ofInt i_p0_latestTear)])), (a_p0_rules, .inr (6, [.int (Int32.ofInt i_p0_rules_seats), .int (Int32.ofInt i_p0_rules_stirs), .ref a_p0_rules_need, .ref a_p0_rules_kind, .ref a_p0_rules_first, .ref a_p0_rules_second, .ref a_p0_rules_after])), (a_p0_rules_after, .inl (G 1, 35, .inl (zA v_p0_rules_after))), (a_p0_state, .inr (8, [.ref a_p0_state_pieces, .ref a_p0_state_friends, .ref a_p0_state_spoons, .ref a_p0_state_eaten, .ref a_p0_state_seen, .int (Int32.ofInt i_p0_state_seenDays), .int (Int32.ofInt i_p0_state_bone), .int (Int32.ofInt i_p0_state_king), .int (Int32.ofInt i_p0_state_days)])), (a_p0_state_pieces, .inl (G 1, 7, .inl (zA v_p0_state_pieces))), (a_p0_state_friends, .inl (G 1, 7, .inl (zA v_p0_state_friends))), (a_p0_kitchen, .inr (2, [.ref a_p0_rules, .ref a_p0_state, .ref a_p0_kitchen_places, .ref a_p0_kitchen_holders, .ref a_p0_kitchen_stirred])), (a_p0_kitchen_places, .inl (G 1, 49, .inl (zA w7))), (a_p0_kitchen_holders, .inl (G 1, 49, .inl (zA w8))), (a_p0_kitchen_stirred, .inl (G 1, 7, .inl (zA v_p0_kitchen_stirred)))]) (va_runV (As := [.int (Int32.ofInt x1)]) (rest := []) ⟨hx, hb, hml, hown, hts⟩ (c_X2_serve (l := l) (D := D) (G := G) (sz := H.size) (a_p0 := a_p0_kitchen) (a_p0_rules := a_p0_rules) (a_p0_state := a_p0_state) (a_p0_places := a_p0_kitchen_places) (a_p0_holders := a_p0_kitchen_holders) (a_p0_stirred := a_p0_kitchen_stirred) (a_p0_rules_need := a_p0_rules_need) (a_p0_rules_kind := a_p0_rules_kind) (a_p0_rules_first := a_p0_rules_first) (a_p0_rules_second := a_p0_rules_second) (a_p0_rules_after := a_p0_rules_after) (a_p0_state_pieces := a_p0_state_pieces) (a_p0_state_friends := a_p0_state_friends) (a_p0_state_spoons := a_p0_state_spoons) (a_p0_state_eaten := a_p0_state_eaten) (a_p0_state_seen := a_p0_state_seen) (i_p0_rules_seats := i_p0_rules_seats) (i_p0_rules_stirs := i_p0_rules_stirs) (i_p0_state_seenDays := i_p0_state_seenDays) (i_p0_state_bone := i_p0_state_bone) (i_p0_state_king := i_p0_state_king) (i_p0_state_days := i_p0_state_days) (v_p0_state_friends := v_p0_state_friends) (v_p0_places := v_p0_kitchen_places) (v_p0_holders := v_p0_kitchen_holders) (x1 := x1) (o_v_p0_places := w7) (o_v_p0_holders := w8) (hf := hcall)) (cwV 1 hts gX11_bowl_X2_serve rfl rfl rfl hdV_yX2_serve_RX2 ⟨Nat.le_of_ble_eq_true rfl, Nat.le_of_ble_eq_true rfl⟩) (preG_V (ci := 2) (q := (RX2, TX2, 5)) (hP.sub [6, 1, 3, 5, 7, 8] rfl) (hD.sub [6, 1, 3, 5, 7, 8] rfl rfl) hK rfl rfl) rfl rfl hl.1 rfl (lv_room (Nat.le_of_ble_eq_true rfl)) dX11_bowl_40 ⟨Nat.le_of_ble_eq_true rfl, Nat.le_of_ble_eq_true rfl⟩) hP hD hS hA [6, 1, 3, 5, 7, 8] rfl rfl rfl (fun H locs hP hD hS => ?_)
        clear hcall
        refine lv_aload_n hx hb dX11_bowl_43 rfl (lv_at hl 0 rfl) ?_
        refine va_get (D := D) (ci := 11) (v := .ref a_p0_kitchen) (C := RX11) (T := TX11) (N := 15) hx hb hts inX11_bowl_X11 hown hK hP 0 rfl rfl 4 (by decide) (hts _ mwX11_bowl_2) (fun _ h9 => h9) rfl dX11_bowl_44 ?_
        refine lv_iload_n hx hb dX11_bowl_47 rfl (lv_at hl 3 rfl) ?_
        have hq := bd1_s hf
        clear hf
        obtain ⟨w9, hcall, hf⟩ := hq
        refine gsV (ws' := [(a_p0, .inr (11, [.ref a_p0_rules, .ref a_p0_state, .ref a_p0_tape, .ref a_p0_reader, .ref a_p0_kitchen, .ref a_p0_luck, .ref a_p0_plans, .ref a_p0_coups, .ref a_p0_past, .ref a_p0_fairDays, .ref a_p0_images, .ref a_p0_imageHeld, .ref a_p0_sheets, .int (Int32.ofInt i_p0_latestFault), .int (Int32.ofInt i_p0_latestTear)])), (a_p0_rules, .inr (6, [.int (Int32.ofInt i_p0_rules_seats), .int (Int32.ofInt i_p0_rules_stirs), .ref a_p0_rules_need, .ref a_p0_rules_kind, .ref a_p0_rules_first, .ref a_p0_rules_second, .ref a_p0_rules_after])), (a_p0_rules_after, .inl (G 1, 35, .inl (zA v_p0_rules_after))), (a_p0_state, .inr (8, [.ref a_p0_state_pieces, .ref a_p0_state_friends, .ref a_p0_state_spoons, .ref a_p0_state_eaten, .ref a_p0_state_seen, .int (Int32.ofInt i_p0_state_seenDays), .int (Int32.ofInt i_p0_state_bone), .int (Int32.ofInt i_p0_state_king), .int (Int32.ofInt i_p0_state_days)])), (a_p0_state_pieces, .inl (G 1, 7, .inl (zA v_p0_state_pieces))), (a_p0_state_friends, .inl (G 1, 7, .inl (zA v_p0_state_friends))), (a_p0_kitchen, .inr (2, [.ref a_p0_rules, .ref a_p0_state, .ref a_p0_kitchen_places, .ref a_p0_kitchen_holders, .ref a_p0_kitchen_stirred])), (a_p0_kitchen_places, .inl (G 1, 49, .inl (zA w7))), (a_p0_kitchen_holders, .inl (G 1, 49, .inl (zA w8))), (a_p0_kitchen_stirred, .inl (G 1, 7, .inl (zA w9)))]) (va_runV (As := [.int (Int32.ofInt x3)]) (rest := []) ⟨hx, hb, hml, hown, hts⟩ (c_X2_stirPot (l := l) (D := D) (G := G) (sz := H.size) (a_p0 := a_p0_kitchen) (a_p0_rules := a_p0_rules) (a_p0_state := a_p0_state) (a_p0_places := a_p0_kitchen_places) (a_p0_holders := a_p0_kitchen_holders) (a_p0_stirred := a_p0_kitchen_stirred) (a_p0_rules_need := a_p0_rules_need) (a_p0_rules_kind := a_p0_rules_kind) (a_p0_rules_first := a_p0_rules_first) (a_p0_rules_second := a_p0_rules_second) (a_p0_rules_after := a_p0_rules_after) (a_p0_state_pieces := a_p0_state_pieces) (a_p0_state_friends := a_p0_state_friends) (a_p0_state_spoons := a_p0_state_spoons) (a_p0_state_eaten := a_p0_state_eaten) (a_p0_state_seen := a_p0_state_seen) (i_p0_rules_seats := i_p0_rules_seats) (i_p0_rules_stirs := i_p0_rules_stirs) (v_p0_rules_after := v_p0_rules_after) (i_p0_state_seenDays := i_p0_state_seenDays) (i_p0_state_bone := i_p0_state_bone) (i_p0_state_king := i_p0_state_king) (i_p0_state_days := i_p0_state_days) (v_p0_state_pieces := v_p0_state_pieces) (v_p0_stirred := v_p0_kitchen_stirred) (x1 := x3) (o_v_p0_stirred := w9) (hf := hcall)) (cwV 1 hts gX11_bowl_X2_stirPot rfl rfl rfl hdV_yX2_stirPot_RX2 ⟨Nat.le_of_ble_eq_true rfl, Nat.le_of_ble_eq_true rfl⟩) (preG_V (ci := 2) (q := (RX2, TX2, 5)) (hP.sub [6, 1, 2, 3, 4, 9] rfl) (hD.sub [6, 1, 2, 3, 4, 9] rfl rfl) hK rfl rfl) rfl rfl hl.1 rfl (lv_room (Nat.le_of_ble_eq_true rfl)) dX11_bowl_48 ⟨Nat.le_of_ble_eq_true rfl, Nat.le_of_ble_eq_true rfl⟩) hP hD hS hA [6, 1, 2, 3, 4, 9] rfl rfl rfl (fun H locs hP hD hS => ?_)
        clear hcall
        refine lv_aload_n hx hb dX11_bowl_51 rfl (lv_at hl 0 rfl) ?_
        refine va_get (D := D) (ci := 11) (v := .ref a_p0_kitchen) (C := RX11) (T := TX11) (N := 15) hx hb hts inX11_bowl_X11 hown hK hP 0 rfl rfl 4 (by decide) (hts _ mwX11_bowl_2) (fun _ h9 => h9) rfl dX11_bowl_52 ?_
        refine lv_iload_n hx hb dX11_bowl_55 rfl (lv_at hl 1 rfl) ?_
        refine lv_iload_n hx hb dX11_bowl_56 rfl (lv_at hl 2 rfl) ?_
        have hq := bd1_s hf
        clear hf
        obtain ⟨z10, hcall, hf⟩ := hq
        refine gnI (va_runV (As := [.int (Int32.ofInt x1), .int (Int32.ofInt x2)]) (rest := []) ⟨hx, hb, hml, hown, hts⟩ (c_X2_bowlOf (l := l) (D := D) (G := G) (sz := H.size) (a_p0 := a_p0_kitchen) (a_p0_rules := a_p0_rules) (a_p0_state := a_p0_state) (a_p0_places := a_p0_kitchen_places) (a_p0_holders := a_p0_kitchen_holders) (a_p0_stirred := a_p0_kitchen_stirred) (v_p0_places := w7) (v_p0_stirred := w9) (x1 := x1) (x2 := x2) (r := z10) (hf := hcall)) (cwV 2 hts gX11_bowl_X2_bowlOf rfl rfl rfl hdV_yX2_bowlOf_RX2 ⟨Nat.le_of_ble_eq_true rfl, Nat.le_of_ble_eq_true rfl⟩) (preG_V (ci := 2) (q := (RX2, TX2, 5)) (hP.sub [6, 7, 9] rfl) (hD.sub [6, 7, 9] rfl rfl) hK rfl rfl) rfl rfl hl.1 rfl (lv_room (Nat.le_of_ble_eq_true rfl)) dX11_bowl_57 ⟨Nat.le_of_ble_eq_true rfl, Nat.le_of_ble_eq_true rfl⟩) hP hD hS hA [6, 7, 9] rfl (fun H locs hP hD hS => ?_)
        clear hcall
        obtain ⟨rfl, rfl, rfl, rfl⟩ := ou4 hf
        rw [hQ]
        exact W.iret hx hb hr (fun t ht hW => ⟨⟨_, (), rfl, rfl, by rw [ht]; exact hP, va_K.moved hW.alike hK, hD⟩, hS.F ht⟩) hS.2.2 dX11_bowl_60
      ·
        replace hf := ite_t ((z_eq0 hr5).mp cc) hf
        clear cc
        refine lv_iconst (v := Int32.ofInt (-1 : Int)) hx hb dX11_bowl_33 (by decide) ?_
        obtain ⟨rfl, rfl, rfl, rfl⟩ := ou4 hf
        rw [hQ]
        exact W.iret hx hb hr (fun t ht hW => ⟨⟨_, (), rfl, rfl, by rw [ht]; exact hP, va_K.moved hW.alike hK, hD⟩, hS.F ht⟩) hS.2.2 dX11_bowl_34

noncomputable def f_X11_ladle (i_p0_rules_seats : Int) (i_p0_rules_stirs : Int) (v_p0_state_friends : (Int → Int)) (v_p0_kitchen_places : (Int → Int)) (v_p0_kitchen_holders : (Int → Int)) (x1 : Int) (x2 : Int) (x3 : Int) : Option (Int × (Int → Int) × (Int → Int)) := (bd1 (f_X6_hasSeat i_p0_rules_seats x1) (fun (z1 : Int) => (ck (z_r32 z1) (if z1 = (0 : Int) then (some ((-1 : Int), v_p0_kitchen_places, v_p0_kitchen_holders)) else (bd1 (f_X6_hasSeat i_p0_rules_seats x2) (fun (z3 : Int) => (ck (z_r32 z3) (if z3 = (0 : Int) then (some ((-1 : Int), v_p0_kitchen_places, v_p0_kitchen_holders)) else (bd1 (f_X6_hasStir i_p0_rules_stirs x3) (fun (z5 : Int) => (ck (z_r32 z5) (if z5 = (0 : Int) then (some ((-1 : Int), v_p0_kitchen_places, v_p0_kitchen_holders)) else (bd2 (f_X2_serve i_p0_rules_seats v_p0_state_friends v_p0_kitchen_places v_p0_kitchen_holders x1) (fun (w7 : (Int → Int)) (w8 : (Int → Int)) => (bd1 (f_X2_placeOf w7 x1 x2) (fun (z9 : Int) => (some (z9, w7, w8))))))))))))))))))
abbrev rm_X11_ladle : Room := { frames := 2, cells := 0, slots := 0, locals := 49 }
theorem inX11_ladle_X11 : ∀ w ∈ wsX110, w ∈ wsX11_ladle := by first | exact fun w h => List.mem_cons_of_mem _ (List.mem_append_left _ (List.mem_append_left _ (List.mem_append_left _ (List.mem_append_right _ h)))) | decide +kernel
theorem mwX11_ladle_1 : Cond.fieldLink RX11 10 "LadleKings" "rules" "LLadleKings$Rules;" ∈ wsX11_ladle := by first | exact List.mem_of_getElem? (i := 1) rfl | decide +kernel
theorem mwX11_ladle_2 : Cond.fieldLink RX11 44 "LadleKings" "kitchen" "LLadleKings$Kitchen;" ∈ wsX11_ladle := by first | exact List.mem_of_getElem? (i := 2) rfl | decide +kernel
set_option maxHeartbeats 8000000 in
set_option maxRecDepth 100000 in
theorem c_X11_ladle (l : Launch) (D : va_G) (G : Nat → ClassId) (sz : Nat) (a_p0 : Nat) (a_p0_rules : Nat) (a_p0_state : Nat) (a_p0_tape : Nat) (a_p0_reader : Nat) (a_p0_kitchen : Nat) (a_p0_luck : Nat) (a_p0_plans : Nat) (a_p0_coups : Nat) (a_p0_past : Nat) (a_p0_fairDays : Nat) (a_p0_images : Nat) (a_p0_imageHeld : Nat) (a_p0_sheets : Nat) (a_p0_rules_need : Nat) (a_p0_rules_kind : Nat) (a_p0_rules_first : Nat) (a_p0_rules_second : Nat) (a_p0_rules_after : Nat) (a_p0_state_pieces : Nat) (a_p0_state_friends : Nat) (a_p0_state_spoons : Nat) (a_p0_state_eaten : Nat) (a_p0_state_seen : Nat) (a_p0_kitchen_places : Nat) (a_p0_kitchen_holders : Nat) (a_p0_kitchen_stirred : Nat) (i_p0_latestFault : Int) (i_p0_latestTear : Int) (i_p0_rules_seats : Int) (i_p0_rules_stirs : Int) (i_p0_state_seenDays : Int) (i_p0_state_bone : Int) (i_p0_state_king : Int) (i_p0_state_days : Int) (v_p0_state_friends : (Int → Int)) (v_p0_kitchen_places : (Int → Int)) (v_p0_kitchen_holders : (Int → Int)) (x1 : Int) (x2 : Int) (x3 : Int) (r : Int) (o_v_p0_kitchen_places : (Int → Int)) (o_v_p0_kitchen_holders : (Int → Int)) (hf : f_X11_ladle i_p0_rules_seats i_p0_rules_stirs v_p0_state_friends v_p0_kitchen_places v_p0_kitchen_holders x1 x2 x3 = some (r, o_v_p0_kitchen_places, o_v_p0_kitchen_holders)) : Met l yX11_ladle wsX11_ladle rm_X11_ladle (pcG D G [.ref a_p0, .int (Int32.ofInt x1), .int (Int32.ofInt x2), .int (Int32.ofInt x3)] sz [(a_p0, .inr (11, [.ref a_p0_rules, .ref a_p0_state, .ref a_p0_tape, .ref a_p0_reader, .ref a_p0_kitchen, .ref a_p0_luck, .ref a_p0_plans, .ref a_p0_coups, .ref a_p0_past, .ref a_p0_fairDays, .ref a_p0_images, .ref a_p0_imageHeld, .ref a_p0_sheets, .int (Int32.ofInt i_p0_latestFault), .int (Int32.ofInt i_p0_latestTear)])), (a_p0_rules, .inr (6, [.int (Int32.ofInt i_p0_rules_seats), .int (Int32.ofInt i_p0_rules_stirs), .ref a_p0_rules_need, .ref a_p0_rules_kind, .ref a_p0_rules_first, .ref a_p0_rules_second, .ref a_p0_rules_after])), (a_p0_state, .inr (8, [.ref a_p0_state_pieces, .ref a_p0_state_friends, .ref a_p0_state_spoons, .ref a_p0_state_eaten, .ref a_p0_state_seen, .int (Int32.ofInt i_p0_state_seenDays), .int (Int32.ofInt i_p0_state_bone), .int (Int32.ofInt i_p0_state_king), .int (Int32.ofInt i_p0_state_days)])), (a_p0_state_friends, .inl (G 1, 7, .inl (zA v_p0_state_friends))), (a_p0_kitchen, .inr (2, [.ref a_p0_rules, .ref a_p0_state, .ref a_p0_kitchen_places, .ref a_p0_kitchen_holders, .ref a_p0_kitchen_stirred])), (a_p0_kitchen_places, .inl (G 1, 49, .inl (zA v_p0_kitchen_places))), (a_p0_kitchen_holders, .inl (G 1, 49, .inl (zA v_p0_kitchen_holders)))]) (qcI D G (Int32.ofInt r) [(a_p0, .inr (11, [.ref a_p0_rules, .ref a_p0_state, .ref a_p0_tape, .ref a_p0_reader, .ref a_p0_kitchen, .ref a_p0_luck, .ref a_p0_plans, .ref a_p0_coups, .ref a_p0_past, .ref a_p0_fairDays, .ref a_p0_images, .ref a_p0_imageHeld, .ref a_p0_sheets, .int (Int32.ofInt i_p0_latestFault), .int (Int32.ofInt i_p0_latestTear)])), (a_p0_rules, .inr (6, [.int (Int32.ofInt i_p0_rules_seats), .int (Int32.ofInt i_p0_rules_stirs), .ref a_p0_rules_need, .ref a_p0_rules_kind, .ref a_p0_rules_first, .ref a_p0_rules_second, .ref a_p0_rules_after])), (a_p0_state, .inr (8, [.ref a_p0_state_pieces, .ref a_p0_state_friends, .ref a_p0_state_spoons, .ref a_p0_state_eaten, .ref a_p0_state_seen, .int (Int32.ofInt i_p0_state_seenDays), .int (Int32.ofInt i_p0_state_bone), .int (Int32.ofInt i_p0_state_king), .int (Int32.ofInt i_p0_state_days)])), (a_p0_state_friends, .inl (G 1, 7, .inl (zA v_p0_state_friends))), (a_p0_kitchen, .inr (2, [.ref a_p0_rules, .ref a_p0_state, .ref a_p0_kitchen_places, .ref a_p0_kitchen_holders, .ref a_p0_kitchen_stirred])), (a_p0_kitchen_places, .inl (G 1, 49, .inl (zA o_v_p0_kitchen_places))), (a_p0_kitchen_holders, .inl (G 1, 49, .inl (zA o_v_p0_kitchen_holders)))] (va_A [(a_p0, .inr (11, [.ref a_p0_rules, .ref a_p0_state, .ref a_p0_tape, .ref a_p0_reader, .ref a_p0_kitchen, .ref a_p0_luck, .ref a_p0_plans, .ref a_p0_coups, .ref a_p0_past, .ref a_p0_fairDays, .ref a_p0_images, .ref a_p0_imageHeld, .ref a_p0_sheets, .int (Int32.ofInt i_p0_latestFault), .int (Int32.ofInt i_p0_latestTear)])), (a_p0_rules, .inr (6, [.int (Int32.ofInt i_p0_rules_seats), .int (Int32.ofInt i_p0_rules_stirs), .ref a_p0_rules_need, .ref a_p0_rules_kind, .ref a_p0_rules_first, .ref a_p0_rules_second, .ref a_p0_rules_after])), (a_p0_state, .inr (8, [.ref a_p0_state_pieces, .ref a_p0_state_friends, .ref a_p0_state_spoons, .ref a_p0_state_eaten, .ref a_p0_state_seen, .int (Int32.ofInt i_p0_state_seenDays), .int (Int32.ofInt i_p0_state_bone), .int (Int32.ofInt i_p0_state_king), .int (Int32.ofInt i_p0_state_days)])), (a_p0_state_friends, .inl (G 1, 7, .inl (zA v_p0_state_friends))), (a_p0_kitchen, .inr (2, [.ref a_p0_rules, .ref a_p0_state, .ref a_p0_kitchen_places, .ref a_p0_kitchen_holders, .ref a_p0_kitchen_stirred])), (a_p0_kitchen_places, .inl (G 1, 49, .inl (zA v_p0_kitchen_places))), (a_p0_kitchen_holders, .inl (G 1, 49, .inl (zA v_p0_kitchen_holders)))] sz)) 0 0 (va_A [(a_p0, .inr (11, [.ref a_p0_rules, .ref a_p0_state, .ref a_p0_tape, .ref a_p0_reader, .ref a_p0_kitchen, .ref a_p0_luck, .ref a_p0_plans, .ref a_p0_coups, .ref a_p0_past, .ref a_p0_fairDays, .ref a_p0_images, .ref a_p0_imageHeld, .ref a_p0_sheets, .int (Int32.ofInt i_p0_latestFault), .int (Int32.ofInt i_p0_latestTear)])), (a_p0_rules, .inr (6, [.int (Int32.ofInt i_p0_rules_seats), .int (Int32.ofInt i_p0_rules_stirs), .ref a_p0_rules_need, .ref a_p0_rules_kind, .ref a_p0_rules_first, .ref a_p0_rules_second, .ref a_p0_rules_after])), (a_p0_state, .inr (8, [.ref a_p0_state_pieces, .ref a_p0_state_friends, .ref a_p0_state_spoons, .ref a_p0_state_eaten, .ref a_p0_state_seen, .int (Int32.ofInt i_p0_state_seenDays), .int (Int32.ofInt i_p0_state_bone), .int (Int32.ofInt i_p0_state_king), .int (Int32.ofInt i_p0_state_days)])), (a_p0_state_friends, .inl (G 1, 7, .inl (zA v_p0_state_friends))), (a_p0_kitchen, .inr (2, [.ref a_p0_rules, .ref a_p0_state, .ref a_p0_kitchen_places, .ref a_p0_kitchen_holders, .ref a_p0_kitchen_stirred])), (a_p0_kitchen_places, .inl (G 1, 49, .inl (zA v_p0_kitchen_places))), (a_p0_kitchen_holders, .inl (G 1, 49, .inl (zA v_p0_kitchen_holders)))] sz) := by
  refine Met.ofW (cc := cX11_ladle) (maxL := 4) (ret := (some .int)) (by decide) rfl ?_
  intro p e s m args below meth c s₁ B hml hv
  obtain ⟨rfl, hsz, hP, hK, hD0⟩ := hv
  have hx := B.exec
  have hb := B.bytes
  have hr := B.returns
  have hts := atoms_spec (ws := wsX11_ladle) B.pre
  have hown : s.vm.findClass RX11 = some m.cls := findClass_of_methodNamed B.named
  have hlocks := B.notSynchronized
  subst hsz
  have hD := hD0.self (sz := s.heap.size)
  generalize hAe : va_A [(a_p0, .inr (11, [.ref a_p0_rules, .ref a_p0_state, .ref a_p0_tape, .ref a_p0_reader, .ref a_p0_kitchen, .ref a_p0_luck, .ref a_p0_plans, .ref a_p0_coups, .ref a_p0_past, .ref a_p0_fairDays, .ref a_p0_images, .ref a_p0_imageHeld, .ref a_p0_sheets, .int (Int32.ofInt i_p0_latestFault), .int (Int32.ofInt i_p0_latestTear)])), (a_p0_rules, .inr (6, [.int (Int32.ofInt i_p0_rules_seats), .int (Int32.ofInt i_p0_rules_stirs), .ref a_p0_rules_need, .ref a_p0_rules_kind, .ref a_p0_rules_first, .ref a_p0_rules_second, .ref a_p0_rules_after])), (a_p0_state, .inr (8, [.ref a_p0_state_pieces, .ref a_p0_state_friends, .ref a_p0_state_spoons, .ref a_p0_state_eaten, .ref a_p0_state_seen, .int (Int32.ofInt i_p0_state_seenDays), .int (Int32.ofInt i_p0_state_bone), .int (Int32.ofInt i_p0_state_king), .int (Int32.ofInt i_p0_state_days)])), (a_p0_state_friends, .inl (G 1, 7, .inl (zA v_p0_state_friends))), (a_p0_kitchen, .inr (2, [.ref a_p0_rules, .ref a_p0_state, .ref a_p0_kitchen_places, .ref a_p0_kitchen_holders, .ref a_p0_kitchen_stirred])), (a_p0_kitchen_places, .inl (G 1, 49, .inl (zA v_p0_kitchen_places))), (a_p0_kitchen_holders, .inl (G 1, 49, .inl (zA v_p0_kitchen_holders)))] s.heap.size = A at hD ⊢
  have hA : ∀ q : Nat, s.heap.size ≤ q → A q := fun q h => by rw [← hAe]; exact Or.inr h
  clear hAe hD0
  have hS : va_S A s.heap s.heap [] := va_S.rf
  have hl := lv_entry ([.ref a_p0, .int (Int32.ofInt x1), .int (Int32.ofInt x2), .int (Int32.ofInt x3)]) (n := 4) (Nat.le_of_ble_eq_true rfl)
  rw [lg_entry_eq]
  generalize (lg_sl ([.ref a_p0, .int (Int32.ofInt x1), .int (Int32.ofInt x2), .int (Int32.ofInt x3)]) ++ List.replicate (4 - (lg_sl ([.ref a_p0, .int (Int32.ofInt x1), .int (Int32.ofInt x2), .int (Int32.ofInt x3)])).length) Slot.unset).toArray = ls at hl ⊢
  have hl : lv_has ls 4 [(0, .ref a_p0), (1, .int (Int32.ofInt x1)), (2, .int (Int32.ofInt x2)), (3, .int (Int32.ofInt x3))] := hl
  refine W_nameQ (fun Q hQ => ?_)
  obtain ⟨H, hH⟩ : ∃ H, H = s.heap := ⟨_, rfl⟩
  replace hS : va_S A s.heap H [] := by rw [hH]; exact hS
  replace hP : va_P D vwCl [(a_p0, .inr (11, [.ref a_p0_rules, .ref a_p0_state, .ref a_p0_tape, .ref a_p0_reader, .ref a_p0_kitchen, .ref a_p0_luck, .ref a_p0_plans, .ref a_p0_coups, .ref a_p0_past, .ref a_p0_fairDays, .ref a_p0_images, .ref a_p0_imageHeld, .ref a_p0_sheets, .int (Int32.ofInt i_p0_latestFault), .int (Int32.ofInt i_p0_latestTear)])), (a_p0_rules, .inr (6, [.int (Int32.ofInt i_p0_rules_seats), .int (Int32.ofInt i_p0_rules_stirs), .ref a_p0_rules_need, .ref a_p0_rules_kind, .ref a_p0_rules_first, .ref a_p0_rules_second, .ref a_p0_rules_after])), (a_p0_state, .inr (8, [.ref a_p0_state_pieces, .ref a_p0_state_friends, .ref a_p0_state_spoons, .ref a_p0_state_eaten, .ref a_p0_state_seen, .int (Int32.ofInt i_p0_state_seenDays), .int (Int32.ofInt i_p0_state_bone), .int (Int32.ofInt i_p0_state_king), .int (Int32.ofInt i_p0_state_days)])), (a_p0_state_friends, .inl (G 1, 7, .inl (zA v_p0_state_friends))), (a_p0_kitchen, .inr (2, [.ref a_p0_rules, .ref a_p0_state, .ref a_p0_kitchen_places, .ref a_p0_kitchen_holders, .ref a_p0_kitchen_stirred])), (a_p0_kitchen_places, .inl (G 1, 49, .inl (zA v_p0_kitchen_places))), (a_p0_kitchen_holders, .inl (G 1, 49, .inl (zA v_p0_kitchen_holders)))] H := by rw [hH]; exact hP
  rw [← hH]
  clear hH
  unfold f_X11_ladle at hf
  refine lv_aload_n hx hb dX11_ladle_0 rfl (lv_at hl 0 rfl) ?_
  refine va_get (D := D) (ci := 11) (v := .ref a_p0_rules) (C := RX11) (T := TX11) (N := 15) hx hb hts inX11_ladle_X11 hown hK hP 0 rfl rfl 0 (by decide) (hts _ mwX11_ladle_1) (fun _ h9 => h9) rfl dX11_ladle_1 ?_
  refine lv_iload_n hx hb dX11_ladle_4 rfl (lv_at hl 1 rfl) ?_
  have hq := bd1_s hf
  clear hf
  obtain ⟨z1, hcall, hf⟩ := hq
  refine gnI (va_runV (As := [.int (Int32.ofInt x1)]) (rest := []) ⟨hx, hb, hml, hown, hts⟩ (c_X6_hasSeat (l := l) (D := D) (G := G) (sz := H.size) (a_p0 := a_p0_rules) (a_p0_need := a_p0_rules_need) (a_p0_kind := a_p0_rules_kind) (a_p0_first := a_p0_rules_first) (a_p0_second := a_p0_rules_second) (a_p0_after := a_p0_rules_after) (i_p0_seats := i_p0_rules_seats) (i_p0_stirs := i_p0_rules_stirs) (x1 := x1) (r := z1) (hf := hcall)) (cwV 1 hts gX11_ladle_X6_hasSeat rfl rfl rfl hdV_yX6_hasSeat_RX6 ⟨Nat.le_of_ble_eq_true rfl, Nat.le_of_ble_eq_true rfl⟩) (preG_V (ci := 6) (q := (RX6, TX6, 7)) (hP.sub [1] rfl) (hD.sub [1] rfl rfl) hK rfl rfl) rfl rfl hl.1 rfl (lv_room (Nat.le_of_ble_eq_true rfl)) dX11_ladle_5 ⟨Nat.le_of_ble_eq_true rfl, Nat.le_of_ble_eq_true rfl⟩) hP hD hS hA [1] rfl (fun H locs hP hD hS => ?_)
  clear hcall
  have hr1 := ck_c hf
  replace hf := ck_r hf
  refine lv_if_eq (tgt := 33) hx hb dX11_ladle_8 (by decide) (fun cc => ?_) (fun cc => ?_)
  ·
    replace hf := ite_t ((z_eq0 hr1).mp cc) hf
    clear cc
    refine lv_iconst (v := Int32.ofInt (-1 : Int)) hx hb dX11_ladle_33 (by decide) ?_
    obtain ⟨rfl, rfl, rfl⟩ := ou3 hf
    rw [hQ]
    exact W.iret hx hb hr (fun t ht hW => ⟨⟨_, (), rfl, rfl, by rw [ht]; exact hP, va_K.moved hW.alike hK, hD⟩, hS.F ht⟩) hS.2.2 dX11_ladle_34
  ·
    replace hf := ite_f (fun h9 => cc ((z_eq0 hr1).mpr h9)) hf
    clear cc
    refine lv_aload_n hx hb dX11_ladle_11 rfl (lv_at hl 0 rfl) ?_
    refine va_get (D := D) (ci := 11) (v := .ref a_p0_rules) (C := RX11) (T := TX11) (N := 15) hx hb hts inX11_ladle_X11 hown hK hP 0 rfl rfl 0 (by decide) (hts _ mwX11_ladle_1) (fun _ h9 => h9) rfl dX11_ladle_12 ?_
    refine lv_iload_n hx hb dX11_ladle_15 rfl (lv_at hl 2 rfl) ?_
    have hq := bd1_s hf
    clear hf
    obtain ⟨z3, hcall, hf⟩ := hq
    refine gnI (va_runV (As := [.int (Int32.ofInt x2)]) (rest := []) ⟨hx, hb, hml, hown, hts⟩ (c_X6_hasSeat (l := l) (D := D) (G := G) (sz := H.size) (a_p0 := a_p0_rules) (a_p0_need := a_p0_rules_need) (a_p0_kind := a_p0_rules_kind) (a_p0_first := a_p0_rules_first) (a_p0_second := a_p0_rules_second) (a_p0_after := a_p0_rules_after) (i_p0_seats := i_p0_rules_seats) (i_p0_stirs := i_p0_rules_stirs) (x1 := x2) (r := z3) (hf := hcall)) (cwV 1 hts gX11_ladle_X6_hasSeat rfl rfl rfl hdV_yX6_hasSeat_RX6 ⟨Nat.le_of_ble_eq_true rfl, Nat.le_of_ble_eq_true rfl⟩) (preG_V (ci := 6) (q := (RX6, TX6, 7)) (hP.sub [1] rfl) (hD.sub [1] rfl rfl) hK rfl rfl) rfl rfl hl.1 rfl (lv_room (Nat.le_of_ble_eq_true rfl)) dX11_ladle_16 ⟨Nat.le_of_ble_eq_true rfl, Nat.le_of_ble_eq_true rfl⟩) hP hD hS hA [1] rfl (fun H locs hP hD hS => ?_)
    clear hcall
    have hr3 := ck_c hf
    replace hf := ck_r hf
    refine lv_if_eq (tgt := 33) hx hb dX11_ladle_19 (by decide) (fun cc => ?_) (fun cc => ?_)
    ·
      replace hf := ite_t ((z_eq0 hr3).mp cc) hf
      clear cc
      refine lv_iconst (v := Int32.ofInt (-1 : Int)) hx hb dX11_ladle_33 (by decide) ?_
      obtain ⟨rfl, rfl, rfl⟩ := ou3 hf
      rw [hQ]
      exact W.iret hx hb hr (fun t ht hW => ⟨⟨_, (), rfl, rfl, by rw [ht]; exact hP, va_K.moved hW.alike hK, hD⟩, hS.F ht⟩) hS.2.2 dX11_ladle_34
    ·
      replace hf := ite_f (fun h9 => cc ((z_eq0 hr3).mpr h9)) hf
      clear cc
      refine lv_aload_n hx hb dX11_ladle_22 rfl (lv_at hl 0 rfl) ?_
      refine va_get (D := D) (ci := 11) (v := .ref a_p0_rules) (C := RX11) (T := TX11) (N := 15) hx hb hts inX11_ladle_X11 hown hK hP 0 rfl rfl 0 (by decide) (hts _ mwX11_ladle_1) (fun _ h9 => h9) rfl dX11_ladle_23 ?_
      refine lv_iload_n hx hb dX11_ladle_26 rfl (lv_at hl 3 rfl) ?_
      have hq := bd1_s hf
      clear hf
      obtain ⟨z5, hcall, hf⟩ := hq
      refine gnI (va_runV (As := [.int (Int32.ofInt x3)]) (rest := []) ⟨hx, hb, hml, hown, hts⟩ (c_X6_hasStir (l := l) (D := D) (G := G) (sz := H.size) (a_p0 := a_p0_rules) (a_p0_need := a_p0_rules_need) (a_p0_kind := a_p0_rules_kind) (a_p0_first := a_p0_rules_first) (a_p0_second := a_p0_rules_second) (a_p0_after := a_p0_rules_after) (i_p0_seats := i_p0_rules_seats) (i_p0_stirs := i_p0_rules_stirs) (x1 := x3) (r := z5) (hf := hcall)) (cwV 1 hts gX11_ladle_X6_hasStir rfl rfl rfl hdV_yX6_hasStir_RX6 ⟨Nat.le_of_ble_eq_true rfl, Nat.le_of_ble_eq_true rfl⟩) (preG_V (ci := 6) (q := (RX6, TX6, 7)) (hP.sub [1] rfl) (hD.sub [1] rfl rfl) hK rfl rfl) rfl rfl hl.1 rfl (lv_room (Nat.le_of_ble_eq_true rfl)) dX11_ladle_27 ⟨Nat.le_of_ble_eq_true rfl, Nat.le_of_ble_eq_true rfl⟩) hP hD hS hA [1] rfl (fun H locs hP hD hS => ?_)
      clear hcall
      have hr5 := ck_c hf
      replace hf := ck_r hf
      refine lv_if_ne (tgt := 35) hx hb dX11_ladle_30 (by decide) (fun cc => ?_) (fun cc => ?_)
      ·
        replace hf := ite_f (fun h9 => cc ((z_eq0 hr5).mpr h9)) hf
        clear cc
        refine lv_aload_n hx hb dX11_ladle_35 rfl (lv_at hl 0 rfl) ?_
        refine va_get (D := D) (ci := 11) (v := .ref a_p0_kitchen) (C := RX11) (T := TX11) (N := 15) hx hb hts inX11_ladle_X11 hown hK hP 0 rfl rfl 4 (by decide) (hts _ mwX11_ladle_2) (fun _ h9 => h9) rfl dX11_ladle_36 ?_
        refine lv_iload_n hx hb dX11_ladle_39 rfl (lv_at hl 1 rfl) ?_
        have hq := bd2_s hf
        clear hf
        obtain ⟨w7, w8, hcall, hf⟩ := hq
        refine gsV (ws' := [(a_p0, .inr (11, [.ref a_p0_rules, .ref a_p0_state, .ref a_p0_tape, .ref a_p0_reader, .ref a_p0_kitchen, .ref a_p0_luck, .ref a_p0_plans, .ref a_p0_coups, .ref a_p0_past, .ref a_p0_fairDays, .ref a_p0_images, .ref a_p0_imageHeld, .ref a_p0_sheets, .int (Int32.ofInt i_p0_latestFault), .int (Int32.ofInt i_p0_latestTear)])), (a_p0_rules, .inr (6, [.int (Int32.ofInt i_p0_rules_seats), .int (Int32.ofInt i_p0_rules_stirs), .ref a_p0_rules_need, .ref a_p0_rules_kind, .ref a_p0_rules_first, .ref a_p0_rules_second, .ref a_p0_rules_after])), (a_p0_state, .inr (8, [.ref a_p0_state_pieces, .ref a_p0_state_friends, .ref a_p0_state_spoons, .ref a_p0_state_eaten, .ref a_p0_state_seen, .int (Int32.ofInt i_p0_state_seenDays), .int (Int32.ofInt i_p0_state_bone), .int (Int32.ofInt i_p0_state_king), .int (Int32.ofInt i_p0_state_days)])), (a_p0_state_friends, .inl (G 1, 7, .inl (zA v_p0_state_friends))), (a_p0_kitchen, .inr (2, [.ref a_p0_rules, .ref a_p0_state, .ref a_p0_kitchen_places, .ref a_p0_kitchen_holders, .ref a_p0_kitchen_stirred])), (a_p0_kitchen_places, .inl (G 1, 49, .inl (zA w7))), (a_p0_kitchen_holders, .inl (G 1, 49, .inl (zA w8)))]) (va_runV (As := [.int (Int32.ofInt x1)]) (rest := []) ⟨hx, hb, hml, hown, hts⟩ (c_X2_serve (l := l) (D := D) (G := G) (sz := H.size) (a_p0 := a_p0_kitchen) (a_p0_rules := a_p0_rules) (a_p0_state := a_p0_state) (a_p0_places := a_p0_kitchen_places) (a_p0_holders := a_p0_kitchen_holders) (a_p0_stirred := a_p0_kitchen_stirred) (a_p0_rules_need := a_p0_rules_need) (a_p0_rules_kind := a_p0_rules_kind) (a_p0_rules_first := a_p0_rules_first) (a_p0_rules_second := a_p0_rules_second) (a_p0_rules_after := a_p0_rules_after) (a_p0_state_pieces := a_p0_state_pieces) (a_p0_state_friends := a_p0_state_friends) (a_p0_state_spoons := a_p0_state_spoons) (a_p0_state_eaten := a_p0_state_eaten) (a_p0_state_seen := a_p0_state_seen) (i_p0_rules_seats := i_p0_rules_seats) (i_p0_rules_stirs := i_p0_rules_stirs) (i_p0_state_seenDays := i_p0_state_seenDays) (i_p0_state_bone := i_p0_state_bone) (i_p0_state_king := i_p0_state_king) (i_p0_state_days := i_p0_state_days) (v_p0_state_friends := v_p0_state_friends) (v_p0_places := v_p0_kitchen_places) (v_p0_holders := v_p0_kitchen_holders) (x1 := x1) (o_v_p0_places := w7) (o_v_p0_holders := w8) (hf := hcall)) (cwV 1 hts gX11_ladle_X2_serve rfl rfl rfl hdV_yX2_serve_RX2 ⟨Nat.le_of_ble_eq_true rfl, Nat.le_of_ble_eq_true rfl⟩) (preG_V (ci := 2) (q := (RX2, TX2, 5)) (hP.sub [4, 1, 2, 3, 5, 6] rfl) (hD.sub [4, 1, 2, 3, 5, 6] rfl rfl) hK rfl rfl) rfl rfl hl.1 rfl (lv_room (Nat.le_of_ble_eq_true rfl)) dX11_ladle_40 ⟨Nat.le_of_ble_eq_true rfl, Nat.le_of_ble_eq_true rfl⟩) hP hD hS hA [4, 1, 2, 3, 5, 6] rfl rfl rfl (fun H locs hP hD hS => ?_)
        clear hcall
        refine lv_aload_n hx hb dX11_ladle_43 rfl (lv_at hl 0 rfl) ?_
        refine va_get (D := D) (ci := 11) (v := .ref a_p0_kitchen) (C := RX11) (T := TX11) (N := 15) hx hb hts inX11_ladle_X11 hown hK hP 0 rfl rfl 4 (by decide) (hts _ mwX11_ladle_2) (fun _ h9 => h9) rfl dX11_ladle_44 ?_
        refine lv_iload_n hx hb dX11_ladle_47 rfl (lv_at hl 1 rfl) ?_
        refine lv_iload_n hx hb dX11_ladle_48 rfl (lv_at hl 2 rfl) ?_
        have hq := bd1_s hf
        clear hf
        obtain ⟨z9, hcall, hf⟩ := hq
        refine gnI (va_runV (As := [.int (Int32.ofInt x1), .int (Int32.ofInt x2)]) (rest := []) ⟨hx, hb, hml, hown, hts⟩ (c_X2_placeOf (l := l) (D := D) (G := G) (sz := H.size) (a_p0 := a_p0_kitchen) (a_p0_rules := a_p0_rules) (a_p0_state := a_p0_state) (a_p0_places := a_p0_kitchen_places) (a_p0_holders := a_p0_kitchen_holders) (a_p0_stirred := a_p0_kitchen_stirred) (v_p0_places := w7) (x1 := x1) (x2 := x2) (r := z9) (hf := hcall)) (cwV 2 hts gX11_ladle_X2_placeOf rfl rfl rfl hdV_yX2_placeOf_RX2 ⟨Nat.le_of_ble_eq_true rfl, Nat.le_of_ble_eq_true rfl⟩) (preG_V (ci := 2) (q := (RX2, TX2, 5)) (hP.sub [4, 5] rfl) (hD.sub [4, 5] rfl rfl) hK rfl rfl) rfl rfl hl.1 rfl (lv_room (Nat.le_of_ble_eq_true rfl)) dX11_ladle_49 ⟨Nat.le_of_ble_eq_true rfl, Nat.le_of_ble_eq_true rfl⟩) hP hD hS hA [4, 5] rfl (fun H locs hP hD hS => ?_)
        clear hcall
        obtain ⟨rfl, rfl, rfl⟩ := ou3 hf
        rw [hQ]
        exact W.iret hx hb hr (fun t ht hW => ⟨⟨_, (), rfl, rfl, by rw [ht]; exact hP, va_K.moved hW.alike hK, hD⟩, hS.F ht⟩) hS.2.2 dX11_ladle_52
      ·
        replace hf := ite_t ((z_eq0 hr5).mp cc) hf
        clear cc
        refine lv_iconst (v := Int32.ofInt (-1 : Int)) hx hb dX11_ladle_33 (by decide) ?_
        obtain ⟨rfl, rfl, rfl⟩ := ou3 hf
        rw [hQ]
        exact W.iret hx hb hr (fun t ht hW => ⟨⟨_, (), rfl, rfl, by rw [ht]; exact hP, va_K.moved hW.alike hK, hD⟩, hS.F ht⟩) hS.2.2 dX11_ladle_34

noncomputable def f_X11_next (i_p0_rules_seats : Int) (i_p0_rules_stirs : Int) (v_p0_rules_after : (Int → Int)) (i_p0_state_bone : Int) (v_p0_state_friends : (Int → Int)) (v_p0_kitchen_places : (Int → Int)) (v_p0_kitchen_holders : (Int → Int)) (x1 : Int) (x2 : Int) : Option (Int × (Int → Int) × (Int → Int)) := (bd1 (f_X6_hasSeat i_p0_rules_seats x1) (fun (z1 : Int) => (ck (z_r32 z1) (if z1 = (0 : Int) then (some ((-1 : Int), v_p0_kitchen_places, v_p0_kitchen_holders)) else (bd1 (f_X6_hasStir i_p0_rules_stirs x2) (fun (z3 : Int) => (ck (z_r32 z3) (if z3 = (0 : Int) then (some ((-1 : Int), v_p0_kitchen_places, v_p0_kitchen_holders)) else (bd2 (f_X2_serve i_p0_rules_seats v_p0_state_friends v_p0_kitchen_places v_p0_kitchen_holders x1) (fun (w5 : (Int → Int)) (w6 : (Int → Int)) => (bd1 (f_X6_placeAfter v_p0_rules_after x2 i_p0_state_bone) (fun (z7 : Int) => (bd1 (f_X2_holderOf w6 x1 z7) (fun (z8 : Int) => (some (z8, w5, w6))))))))))))))))
abbrev rm_X11_next : Room := { frames := 2, cells := 0, slots := 0, locals := 49 }
theorem inX11_next_X11 : ∀ w ∈ wsX110, w ∈ wsX11_next := by first | exact fun w h => List.mem_cons_of_mem _ (List.mem_append_left _ (List.mem_append_left _ (List.mem_append_left _ (List.mem_append_right _ h)))) | decide +kernel
theorem mwX11_next_1 : Cond.fieldLink RX11 10 "LadleKings" "rules" "LLadleKings$Rules;" ∈ wsX11_next := by first | exact List.mem_of_getElem? (i := 1) rfl | decide +kernel
theorem mwX11_next_2 : Cond.fieldLink RX11 44 "LadleKings" "kitchen" "LLadleKings$Kitchen;" ∈ wsX11_next := by first | exact List.mem_of_getElem? (i := 2) rfl | decide +kernel
theorem mwX11_next_3 : Cond.fieldLink RX11 19 "LadleKings" "state" "LLadleKings$State;" ∈ wsX11_next := by first | exact List.mem_of_getElem? (i := 3) rfl | decide +kernel
theorem inX11_next_X8 : ∀ w ∈ wsX80, w ∈ wsX11_next := by first | exact fun w h => List.mem_cons_of_mem _ (List.mem_append_left _ (List.mem_append_left _ (List.mem_append_right _ h))) | decide +kernel
theorem mwX11_next_5 : Cond.fieldLink RX11 142 "LadleKings$State" "bone" "I" ∈ wsX11_next := by first | exact List.mem_of_getElem? (i := 4) rfl | decide +kernel
set_option maxHeartbeats 8000000 in
set_option maxRecDepth 100000 in
theorem c_X11_next (l : Launch) (D : va_G) (G : Nat → ClassId) (sz : Nat) (a_p0 : Nat) (a_p0_rules : Nat) (a_p0_state : Nat) (a_p0_tape : Nat) (a_p0_reader : Nat) (a_p0_kitchen : Nat) (a_p0_luck : Nat) (a_p0_plans : Nat) (a_p0_coups : Nat) (a_p0_past : Nat) (a_p0_fairDays : Nat) (a_p0_images : Nat) (a_p0_imageHeld : Nat) (a_p0_sheets : Nat) (a_p0_rules_need : Nat) (a_p0_rules_kind : Nat) (a_p0_rules_first : Nat) (a_p0_rules_second : Nat) (a_p0_rules_after : Nat) (a_p0_state_pieces : Nat) (a_p0_state_friends : Nat) (a_p0_state_spoons : Nat) (a_p0_state_eaten : Nat) (a_p0_state_seen : Nat) (a_p0_kitchen_places : Nat) (a_p0_kitchen_holders : Nat) (a_p0_kitchen_stirred : Nat) (i_p0_latestFault : Int) (i_p0_latestTear : Int) (i_p0_rules_seats : Int) (i_p0_rules_stirs : Int) (v_p0_rules_after : (Int → Int)) (i_p0_state_seenDays : Int) (i_p0_state_bone : Int) (i_p0_state_king : Int) (i_p0_state_days : Int) (v_p0_state_friends : (Int → Int)) (v_p0_kitchen_places : (Int → Int)) (v_p0_kitchen_holders : (Int → Int)) (x1 : Int) (x2 : Int) (r : Int) (o_v_p0_kitchen_places : (Int → Int)) (o_v_p0_kitchen_holders : (Int → Int)) (hf : f_X11_next i_p0_rules_seats i_p0_rules_stirs v_p0_rules_after i_p0_state_bone v_p0_state_friends v_p0_kitchen_places v_p0_kitchen_holders x1 x2 = some (r, o_v_p0_kitchen_places, o_v_p0_kitchen_holders)) : Met l yX11_next wsX11_next rm_X11_next (pcG D G [.ref a_p0, .int (Int32.ofInt x1), .int (Int32.ofInt x2)] sz [(a_p0, .inr (11, [.ref a_p0_rules, .ref a_p0_state, .ref a_p0_tape, .ref a_p0_reader, .ref a_p0_kitchen, .ref a_p0_luck, .ref a_p0_plans, .ref a_p0_coups, .ref a_p0_past, .ref a_p0_fairDays, .ref a_p0_images, .ref a_p0_imageHeld, .ref a_p0_sheets, .int (Int32.ofInt i_p0_latestFault), .int (Int32.ofInt i_p0_latestTear)])), (a_p0_rules, .inr (6, [.int (Int32.ofInt i_p0_rules_seats), .int (Int32.ofInt i_p0_rules_stirs), .ref a_p0_rules_need, .ref a_p0_rules_kind, .ref a_p0_rules_first, .ref a_p0_rules_second, .ref a_p0_rules_after])), (a_p0_rules_after, .inl (G 1, 35, .inl (zA v_p0_rules_after))), (a_p0_state, .inr (8, [.ref a_p0_state_pieces, .ref a_p0_state_friends, .ref a_p0_state_spoons, .ref a_p0_state_eaten, .ref a_p0_state_seen, .int (Int32.ofInt i_p0_state_seenDays), .int (Int32.ofInt i_p0_state_bone), .int (Int32.ofInt i_p0_state_king), .int (Int32.ofInt i_p0_state_days)])), (a_p0_state_friends, .inl (G 1, 7, .inl (zA v_p0_state_friends))), (a_p0_kitchen, .inr (2, [.ref a_p0_rules, .ref a_p0_state, .ref a_p0_kitchen_places, .ref a_p0_kitchen_holders, .ref a_p0_kitchen_stirred])), (a_p0_kitchen_places, .inl (G 1, 49, .inl (zA v_p0_kitchen_places))), (a_p0_kitchen_holders, .inl (G 1, 49, .inl (zA v_p0_kitchen_holders)))]) (qcI D G (Int32.ofInt r) [(a_p0, .inr (11, [.ref a_p0_rules, .ref a_p0_state, .ref a_p0_tape, .ref a_p0_reader, .ref a_p0_kitchen, .ref a_p0_luck, .ref a_p0_plans, .ref a_p0_coups, .ref a_p0_past, .ref a_p0_fairDays, .ref a_p0_images, .ref a_p0_imageHeld, .ref a_p0_sheets, .int (Int32.ofInt i_p0_latestFault), .int (Int32.ofInt i_p0_latestTear)])), (a_p0_rules, .inr (6, [.int (Int32.ofInt i_p0_rules_seats), .int (Int32.ofInt i_p0_rules_stirs), .ref a_p0_rules_need, .ref a_p0_rules_kind, .ref a_p0_rules_first, .ref a_p0_rules_second, .ref a_p0_rules_after])), (a_p0_rules_after, .inl (G 1, 35, .inl (zA v_p0_rules_after))), (a_p0_state, .inr (8, [.ref a_p0_state_pieces, .ref a_p0_state_friends, .ref a_p0_state_spoons, .ref a_p0_state_eaten, .ref a_p0_state_seen, .int (Int32.ofInt i_p0_state_seenDays), .int (Int32.ofInt i_p0_state_bone), .int (Int32.ofInt i_p0_state_king), .int (Int32.ofInt i_p0_state_days)])), (a_p0_state_friends, .inl (G 1, 7, .inl (zA v_p0_state_friends))), (a_p0_kitchen, .inr (2, [.ref a_p0_rules, .ref a_p0_state, .ref a_p0_kitchen_places, .ref a_p0_kitchen_holders, .ref a_p0_kitchen_stirred])), (a_p0_kitchen_places, .inl (G 1, 49, .inl (zA o_v_p0_kitchen_places))), (a_p0_kitchen_holders, .inl (G 1, 49, .inl (zA o_v_p0_kitchen_holders)))] (va_A [(a_p0, .inr (11, [.ref a_p0_rules, .ref a_p0_state, .ref a_p0_tape, .ref a_p0_reader, .ref a_p0_kitchen, .ref a_p0_luck, .ref a_p0_plans, .ref a_p0_coups, .ref a_p0_past, .ref a_p0_fairDays, .ref a_p0_images, .ref a_p0_imageHeld, .ref a_p0_sheets, .int (Int32.ofInt i_p0_latestFault), .int (Int32.ofInt i_p0_latestTear)])), (a_p0_rules, .inr (6, [.int (Int32.ofInt i_p0_rules_seats), .int (Int32.ofInt i_p0_rules_stirs), .ref a_p0_rules_need, .ref a_p0_rules_kind, .ref a_p0_rules_first, .ref a_p0_rules_second, .ref a_p0_rules_after])), (a_p0_rules_after, .inl (G 1, 35, .inl (zA v_p0_rules_after))), (a_p0_state, .inr (8, [.ref a_p0_state_pieces, .ref a_p0_state_friends, .ref a_p0_state_spoons, .ref a_p0_state_eaten, .ref a_p0_state_seen, .int (Int32.ofInt i_p0_state_seenDays), .int (Int32.ofInt i_p0_state_bone), .int (Int32.ofInt i_p0_state_king), .int (Int32.ofInt i_p0_state_days)])), (a_p0_state_friends, .inl (G 1, 7, .inl (zA v_p0_state_friends))), (a_p0_kitchen, .inr (2, [.ref a_p0_rules, .ref a_p0_state, .ref a_p0_kitchen_places, .ref a_p0_kitchen_holders, .ref a_p0_kitchen_stirred])), (a_p0_kitchen_places, .inl (G 1, 49, .inl (zA v_p0_kitchen_places))), (a_p0_kitchen_holders, .inl (G 1, 49, .inl (zA v_p0_kitchen_holders)))] sz)) 0 0 (va_A [(a_p0, .inr (11, [.ref a_p0_rules, .ref a_p0_state, .ref a_p0_tape, .ref a_p0_reader, .ref a_p0_kitchen, .ref a_p0_luck, .ref a_p0_plans, .ref a_p0_coups, .ref a_p0_past, .ref a_p0_fairDays, .ref a_p0_images, .ref a_p0_imageHeld, .ref a_p0_sheets, .int (Int32.ofInt i_p0_latestFault), .int (Int32.ofInt i_p0_latestTear)])), (a_p0_rules, .inr (6, [.int (Int32.ofInt i_p0_rules_seats), .int (Int32.ofInt i_p0_rules_stirs), .ref a_p0_rules_need, .ref a_p0_rules_kind, .ref a_p0_rules_first, .ref a_p0_rules_second, .ref a_p0_rules_after])), (a_p0_rules_after, .inl (G 1, 35, .inl (zA v_p0_rules_after))), (a_p0_state, .inr (8, [.ref a_p0_state_pieces, .ref a_p0_state_friends, .ref a_p0_state_spoons, .ref a_p0_state_eaten, .ref a_p0_state_seen, .int (Int32.ofInt i_p0_state_seenDays), .int (Int32.ofInt i_p0_state_bone), .int (Int32.ofInt i_p0_state_king), .int (Int32.ofInt i_p0_state_days)])), (a_p0_state_friends, .inl (G 1, 7, .inl (zA v_p0_state_friends))), (a_p0_kitchen, .inr (2, [.ref a_p0_rules, .ref a_p0_state, .ref a_p0_kitchen_places, .ref a_p0_kitchen_holders, .ref a_p0_kitchen_stirred])), (a_p0_kitchen_places, .inl (G 1, 49, .inl (zA v_p0_kitchen_places))), (a_p0_kitchen_holders, .inl (G 1, 49, .inl (zA v_p0_kitchen_holders)))] sz) := by
  refine Met.ofW (cc := cX11_next) (maxL := 3) (ret := (some .int)) (by decide) rfl ?_
  intro p e s m args below meth c s₁ B hml hv
  obtain ⟨rfl, hsz, hP, hK, hD0⟩ := hv
  have hx := B.exec
  have hb := B.bytes
  have hr := B.returns
  have hts := atoms_spec (ws := wsX11_next) B.pre
  have hown : s.vm.findClass RX11 = some m.cls := findClass_of_methodNamed B.named
  have hlocks := B.notSynchronized
  subst hsz
  have hD := hD0.self (sz := s.heap.size)
  generalize hAe : va_A [(a_p0, .inr (11, [.ref a_p0_rules, .ref a_p0_state, .ref a_p0_tape, .ref a_p0_reader, .ref a_p0_kitchen, .ref a_p0_luck, .ref a_p0_plans, .ref a_p0_coups, .ref a_p0_past, .ref a_p0_fairDays, .ref a_p0_images, .ref a_p0_imageHeld, .ref a_p0_sheets, .int (Int32.ofInt i_p0_latestFault), .int (Int32.ofInt i_p0_latestTear)])), (a_p0_rules, .inr (6, [.int (Int32.ofInt i_p0_rules_seats), .int (Int32.ofInt i_p0_rules_stirs), .ref a_p0_rules_need, .ref a_p0_rules_kind, .ref a_p0_rules_first, .ref a_p0_rules_second, .ref a_p0_rules_after])), (a_p0_rules_after, .inl (G 1, 35, .inl (zA v_p0_rules_after))), (a_p0_state, .inr (8, [.ref a_p0_state_pieces, .ref a_p0_state_friends, .ref a_p0_state_spoons, .ref a_p0_state_eaten, .ref a_p0_state_seen, .int (Int32.ofInt i_p0_state_seenDays), .int (Int32.ofInt i_p0_state_bone), .int (Int32.ofInt i_p0_state_king), .int (Int32.ofInt i_p0_state_days)])), (a_p0_state_friends, .inl (G 1, 7, .inl (zA v_p0_state_friends))), (a_p0_kitchen, .inr (2, [.ref a_p0_rules, .ref a_p0_state, .ref a_p0_kitchen_places, .ref a_p0_kitchen_holders, .ref a_p0_kitchen_stirred])), (a_p0_kitchen_places, .inl (G 1, 49, .inl (zA v_p0_kitchen_places))), (a_p0_kitchen_holders, .inl (G 1, 49, .inl (zA v_p0_kitchen_holders)))] s.heap.size = A at hD ⊢
  have hA : ∀ q : Nat, s.heap.size ≤ q → A q := fun q h => by rw [← hAe]; exact Or.inr h
  clear hAe hD0
  have hS : va_S A s.heap s.heap [] := va_S.rf
  have hl := lv_entry ([.ref a_p0, .int (Int32.ofInt x1), .int (Int32.ofInt x2)]) (n := 3) (Nat.le_of_ble_eq_true rfl)
  rw [lg_entry_eq]
  generalize (lg_sl ([.ref a_p0, .int (Int32.ofInt x1), .int (Int32.ofInt x2)]) ++ List.replicate (3 - (lg_sl ([.ref a_p0, .int (Int32.ofInt x1), .int (Int32.ofInt x2)])).length) Slot.unset).toArray = ls at hl ⊢
  have hl : lv_has ls 3 [(0, .ref a_p0), (1, .int (Int32.ofInt x1)), (2, .int (Int32.ofInt x2))] := hl
  refine W_nameQ (fun Q hQ => ?_)
  obtain ⟨H, hH⟩ : ∃ H, H = s.heap := ⟨_, rfl⟩
  replace hS : va_S A s.heap H [] := by rw [hH]; exact hS
  replace hP : va_P D vwCl [(a_p0, .inr (11, [.ref a_p0_rules, .ref a_p0_state, .ref a_p0_tape, .ref a_p0_reader, .ref a_p0_kitchen, .ref a_p0_luck, .ref a_p0_plans, .ref a_p0_coups, .ref a_p0_past, .ref a_p0_fairDays, .ref a_p0_images, .ref a_p0_imageHeld, .ref a_p0_sheets, .int (Int32.ofInt i_p0_latestFault), .int (Int32.ofInt i_p0_latestTear)])), (a_p0_rules, .inr (6, [.int (Int32.ofInt i_p0_rules_seats), .int (Int32.ofInt i_p0_rules_stirs), .ref a_p0_rules_need, .ref a_p0_rules_kind, .ref a_p0_rules_first, .ref a_p0_rules_second, .ref a_p0_rules_after])), (a_p0_rules_after, .inl (G 1, 35, .inl (zA v_p0_rules_after))), (a_p0_state, .inr (8, [.ref a_p0_state_pieces, .ref a_p0_state_friends, .ref a_p0_state_spoons, .ref a_p0_state_eaten, .ref a_p0_state_seen, .int (Int32.ofInt i_p0_state_seenDays), .int (Int32.ofInt i_p0_state_bone), .int (Int32.ofInt i_p0_state_king), .int (Int32.ofInt i_p0_state_days)])), (a_p0_state_friends, .inl (G 1, 7, .inl (zA v_p0_state_friends))), (a_p0_kitchen, .inr (2, [.ref a_p0_rules, .ref a_p0_state, .ref a_p0_kitchen_places, .ref a_p0_kitchen_holders, .ref a_p0_kitchen_stirred])), (a_p0_kitchen_places, .inl (G 1, 49, .inl (zA v_p0_kitchen_places))), (a_p0_kitchen_holders, .inl (G 1, 49, .inl (zA v_p0_kitchen_holders)))] H := by rw [hH]; exact hP
  rw [← hH]
  clear hH
  unfold f_X11_next at hf
  refine lv_aload_n hx hb dX11_next_0 rfl (lv_at hl 0 rfl) ?_
  refine va_get (D := D) (ci := 11) (v := .ref a_p0_rules) (C := RX11) (T := TX11) (N := 15) hx hb hts inX11_next_X11 hown hK hP 0 rfl rfl 0 (by decide) (hts _ mwX11_next_1) (fun _ h9 => h9) rfl dX11_next_1 ?_
  refine lv_iload_n hx hb dX11_next_4 rfl (lv_at hl 1 rfl) ?_
  have hq := bd1_s hf
  clear hf
  obtain ⟨z1, hcall, hf⟩ := hq
  refine gnI (va_runV (As := [.int (Int32.ofInt x1)]) (rest := []) ⟨hx, hb, hml, hown, hts⟩ (c_X6_hasSeat (l := l) (D := D) (G := G) (sz := H.size) (a_p0 := a_p0_rules) (a_p0_need := a_p0_rules_need) (a_p0_kind := a_p0_rules_kind) (a_p0_first := a_p0_rules_first) (a_p0_second := a_p0_rules_second) (a_p0_after := a_p0_rules_after) (i_p0_seats := i_p0_rules_seats) (i_p0_stirs := i_p0_rules_stirs) (x1 := x1) (r := z1) (hf := hcall)) (cwV 1 hts gX11_next_X6_hasSeat rfl rfl rfl hdV_yX6_hasSeat_RX6 ⟨Nat.le_of_ble_eq_true rfl, Nat.le_of_ble_eq_true rfl⟩) (preG_V (ci := 6) (q := (RX6, TX6, 7)) (hP.sub [1] rfl) (hD.sub [1] rfl rfl) hK rfl rfl) rfl rfl hl.1 rfl (lv_room (Nat.le_of_ble_eq_true rfl)) dX11_next_5 ⟨Nat.le_of_ble_eq_true rfl, Nat.le_of_ble_eq_true rfl⟩) hP hD hS hA [1] rfl (fun H locs hP hD hS => ?_)
  clear hcall
  have hr1 := ck_c hf
  replace hf := ck_r hf
  refine lv_if_eq (tgt := 22) hx hb dX11_next_8 (by decide) (fun cc => ?_) (fun cc => ?_)
  ·
    replace hf := ite_t ((z_eq0 hr1).mp cc) hf
    clear cc
    refine lv_iconst (v := Int32.ofInt (-1 : Int)) hx hb dX11_next_22 (by decide) ?_
    obtain ⟨rfl, rfl, rfl⟩ := ou3 hf
    rw [hQ]
    exact W.iret hx hb hr (fun t ht hW => ⟨⟨_, (), rfl, rfl, by rw [ht]; exact hP, va_K.moved hW.alike hK, hD⟩, hS.F ht⟩) hS.2.2 dX11_next_23
  ·
    replace hf := ite_f (fun h9 => cc ((z_eq0 hr1).mpr h9)) hf
    clear cc
    refine lv_aload_n hx hb dX11_next_11 rfl (lv_at hl 0 rfl) ?_
    refine va_get (D := D) (ci := 11) (v := .ref a_p0_rules) (C := RX11) (T := TX11) (N := 15) hx hb hts inX11_next_X11 hown hK hP 0 rfl rfl 0 (by decide) (hts _ mwX11_next_1) (fun _ h9 => h9) rfl dX11_next_12 ?_
    refine lv_iload_n hx hb dX11_next_15 rfl (lv_at hl 2 rfl) ?_
    have hq := bd1_s hf
    clear hf
    obtain ⟨z3, hcall, hf⟩ := hq
    refine gnI (va_runV (As := [.int (Int32.ofInt x2)]) (rest := []) ⟨hx, hb, hml, hown, hts⟩ (c_X6_hasStir (l := l) (D := D) (G := G) (sz := H.size) (a_p0 := a_p0_rules) (a_p0_need := a_p0_rules_need) (a_p0_kind := a_p0_rules_kind) (a_p0_first := a_p0_rules_first) (a_p0_second := a_p0_rules_second) (a_p0_after := a_p0_rules_after) (i_p0_seats := i_p0_rules_seats) (i_p0_stirs := i_p0_rules_stirs) (x1 := x2) (r := z3) (hf := hcall)) (cwV 1 hts gX11_next_X6_hasStir rfl rfl rfl hdV_yX6_hasStir_RX6 ⟨Nat.le_of_ble_eq_true rfl, Nat.le_of_ble_eq_true rfl⟩) (preG_V (ci := 6) (q := (RX6, TX6, 7)) (hP.sub [1] rfl) (hD.sub [1] rfl rfl) hK rfl rfl) rfl rfl hl.1 rfl (lv_room (Nat.le_of_ble_eq_true rfl)) dX11_next_16 ⟨Nat.le_of_ble_eq_true rfl, Nat.le_of_ble_eq_true rfl⟩) hP hD hS hA [1] rfl (fun H locs hP hD hS => ?_)
    clear hcall
    have hr3 := ck_c hf
    replace hf := ck_r hf
    refine lv_if_ne (tgt := 24) hx hb dX11_next_19 (by decide) (fun cc => ?_) (fun cc => ?_)
    ·
      replace hf := ite_f (fun h9 => cc ((z_eq0 hr3).mpr h9)) hf
      clear cc
      refine lv_aload_n hx hb dX11_next_24 rfl (lv_at hl 0 rfl) ?_
      refine va_get (D := D) (ci := 11) (v := .ref a_p0_kitchen) (C := RX11) (T := TX11) (N := 15) hx hb hts inX11_next_X11 hown hK hP 0 rfl rfl 4 (by decide) (hts _ mwX11_next_2) (fun _ h9 => h9) rfl dX11_next_25 ?_
      refine lv_iload_n hx hb dX11_next_28 rfl (lv_at hl 1 rfl) ?_
      have hq := bd2_s hf
      clear hf
      obtain ⟨w5, w6, hcall, hf⟩ := hq
      refine gsV (ws' := [(a_p0, .inr (11, [.ref a_p0_rules, .ref a_p0_state, .ref a_p0_tape, .ref a_p0_reader, .ref a_p0_kitchen, .ref a_p0_luck, .ref a_p0_plans, .ref a_p0_coups, .ref a_p0_past, .ref a_p0_fairDays, .ref a_p0_images, .ref a_p0_imageHeld, .ref a_p0_sheets, .int (Int32.ofInt i_p0_latestFault), .int (Int32.ofInt i_p0_latestTear)])), (a_p0_rules, .inr (6, [.int (Int32.ofInt i_p0_rules_seats), .int (Int32.ofInt i_p0_rules_stirs), .ref a_p0_rules_need, .ref a_p0_rules_kind, .ref a_p0_rules_first, .ref a_p0_rules_second, .ref a_p0_rules_after])), (a_p0_rules_after, .inl (G 1, 35, .inl (zA v_p0_rules_after))), (a_p0_state, .inr (8, [.ref a_p0_state_pieces, .ref a_p0_state_friends, .ref a_p0_state_spoons, .ref a_p0_state_eaten, .ref a_p0_state_seen, .int (Int32.ofInt i_p0_state_seenDays), .int (Int32.ofInt i_p0_state_bone), .int (Int32.ofInt i_p0_state_king), .int (Int32.ofInt i_p0_state_days)])), (a_p0_state_friends, .inl (G 1, 7, .inl (zA v_p0_state_friends))), (a_p0_kitchen, .inr (2, [.ref a_p0_rules, .ref a_p0_state, .ref a_p0_kitchen_places, .ref a_p0_kitchen_holders, .ref a_p0_kitchen_stirred])), (a_p0_kitchen_places, .inl (G 1, 49, .inl (zA w5))), (a_p0_kitchen_holders, .inl (G 1, 49, .inl (zA w6)))]) (va_runV (As := [.int (Int32.ofInt x1)]) (rest := []) ⟨hx, hb, hml, hown, hts⟩ (c_X2_serve (l := l) (D := D) (G := G) (sz := H.size) (a_p0 := a_p0_kitchen) (a_p0_rules := a_p0_rules) (a_p0_state := a_p0_state) (a_p0_places := a_p0_kitchen_places) (a_p0_holders := a_p0_kitchen_holders) (a_p0_stirred := a_p0_kitchen_stirred) (a_p0_rules_need := a_p0_rules_need) (a_p0_rules_kind := a_p0_rules_kind) (a_p0_rules_first := a_p0_rules_first) (a_p0_rules_second := a_p0_rules_second) (a_p0_rules_after := a_p0_rules_after) (a_p0_state_pieces := a_p0_state_pieces) (a_p0_state_friends := a_p0_state_friends) (a_p0_state_spoons := a_p0_state_spoons) (a_p0_state_eaten := a_p0_state_eaten) (a_p0_state_seen := a_p0_state_seen) (i_p0_rules_seats := i_p0_rules_seats) (i_p0_rules_stirs := i_p0_rules_stirs) (i_p0_state_seenDays := i_p0_state_seenDays) (i_p0_state_bone := i_p0_state_bone) (i_p0_state_king := i_p0_state_king) (i_p0_state_days := i_p0_state_days) (v_p0_state_friends := v_p0_state_friends) (v_p0_places := v_p0_kitchen_places) (v_p0_holders := v_p0_kitchen_holders) (x1 := x1) (o_v_p0_places := w5) (o_v_p0_holders := w6) (hf := hcall)) (cwV 1 hts gX11_next_X2_serve rfl rfl rfl hdV_yX2_serve_RX2 ⟨Nat.le_of_ble_eq_true rfl, Nat.le_of_ble_eq_true rfl⟩) (preG_V (ci := 2) (q := (RX2, TX2, 5)) (hP.sub [5, 1, 3, 4, 6, 7] rfl) (hD.sub [5, 1, 3, 4, 6, 7] rfl rfl) hK rfl rfl) rfl rfl hl.1 rfl (lv_room (Nat.le_of_ble_eq_true rfl)) dX11_next_29 ⟨Nat.le_of_ble_eq_true rfl, Nat.le_of_ble_eq_true rfl⟩) hP hD hS hA [5, 1, 3, 4, 6, 7] rfl rfl rfl (fun H locs hP hD hS => ?_)
      clear hcall
      refine lv_aload_n hx hb dX11_next_32 rfl (lv_at hl 0 rfl) ?_
      refine va_get (D := D) (ci := 11) (v := .ref a_p0_kitchen) (C := RX11) (T := TX11) (N := 15) hx hb hts inX11_next_X11 hown hK hP 0 rfl rfl 4 (by decide) (hts _ mwX11_next_2) (fun _ h9 => h9) rfl dX11_next_33 ?_
      refine lv_iload_n hx hb dX11_next_36 rfl (lv_at hl 1 rfl) ?_
      refine lv_aload_n hx hb dX11_next_37 rfl (lv_at hl 0 rfl) ?_
      refine va_get (D := D) (ci := 11) (v := .ref a_p0_rules) (C := RX11) (T := TX11) (N := 15) hx hb hts inX11_next_X11 hown hK hP 0 rfl rfl 0 (by decide) (hts _ mwX11_next_1) (fun _ h9 => h9) rfl dX11_next_38 ?_
      refine lv_iload_n hx hb dX11_next_41 rfl (lv_at hl 2 rfl) ?_
      refine lv_aload_n hx hb dX11_next_42 rfl (lv_at hl 0 rfl) ?_
      refine va_get (D := D) (ci := 11) (v := .ref a_p0_state) (C := RX11) (T := TX11) (N := 15) hx hb hts inX11_next_X11 hown hK hP 0 rfl rfl 1 (by decide) (hts _ mwX11_next_3) (fun _ h9 => h9) rfl dX11_next_43 ?_
      refine va_get (D := D) (ci := 8) (v := .int (Int32.ofInt i_p0_state_bone)) (C := RX8) (T := TX8) (N := 9) hx hb hts inX11_next_X8 hown hK hP 3 rfl rfl 6 (by decide) (hts _ mwX11_next_5) (fun _ h9 => h9) rfl dX11_next_46 ?_
      have hq := bd1_s hf
      clear hf
      obtain ⟨z7, hcall, hf⟩ := hq
      refine gnI (va_runV (As := [.int (Int32.ofInt x2), .int (Int32.ofInt i_p0_state_bone)]) (rest := [.int (Int32.ofInt x1), .ref a_p0_kitchen]) ⟨hx, hb, hml, hown, hts⟩ (c_X6_placeAfter (l := l) (D := D) (G := G) (sz := H.size) (a_p0 := a_p0_rules) (a_p0_need := a_p0_rules_need) (a_p0_kind := a_p0_rules_kind) (a_p0_first := a_p0_rules_first) (a_p0_second := a_p0_rules_second) (a_p0_after := a_p0_rules_after) (i_p0_seats := i_p0_rules_seats) (i_p0_stirs := i_p0_rules_stirs) (v_p0_after := v_p0_rules_after) (x1 := x2) (x2 := i_p0_state_bone) (r := z7) (hf := hcall)) (cwV 2 hts gX11_next_X6_placeAfter rfl rfl rfl hdV_yX6_placeAfter_RX6 ⟨Nat.le_of_ble_eq_true rfl, Nat.le_of_ble_eq_true rfl⟩) (preG_V (ci := 6) (q := (RX6, TX6, 7)) (hP.sub [1, 2] rfl) (hD.sub [1, 2] rfl rfl) hK rfl rfl) rfl rfl hl.1 rfl (lv_room (Nat.le_of_ble_eq_true rfl)) dX11_next_49 ⟨Nat.le_of_ble_eq_true rfl, Nat.le_of_ble_eq_true rfl⟩) hP hD hS hA [1, 2] rfl (fun H locs hP hD hS => ?_)
      clear hcall
      have hq := bd1_s hf
      clear hf
      obtain ⟨z8, hcall, hf⟩ := hq
      refine gnI (va_runV (As := [.int (Int32.ofInt x1), .int (Int32.ofInt z7)]) (rest := []) ⟨hx, hb, hml, hown, hts⟩ (c_X2_holderOf (l := l) (D := D) (G := G) (sz := H.size) (a_p0 := a_p0_kitchen) (a_p0_rules := a_p0_rules) (a_p0_state := a_p0_state) (a_p0_places := a_p0_kitchen_places) (a_p0_holders := a_p0_kitchen_holders) (a_p0_stirred := a_p0_kitchen_stirred) (v_p0_holders := w6) (x1 := x1) (x2 := z7) (r := z8) (hf := hcall)) (cwV 2 hts gX11_next_X2_holderOf rfl rfl rfl hdV_yX2_holderOf_RX2 ⟨Nat.le_of_ble_eq_true rfl, Nat.le_of_ble_eq_true rfl⟩) (preG_V (ci := 2) (q := (RX2, TX2, 5)) (hP.sub [5, 7] rfl) (hD.sub [5, 7] rfl rfl) hK rfl rfl) rfl rfl hl.1 rfl (lv_room (Nat.le_of_ble_eq_true rfl)) dX11_next_52 ⟨Nat.le_of_ble_eq_true rfl, Nat.le_of_ble_eq_true rfl⟩) hP hD hS hA [5, 7] rfl (fun H locs hP hD hS => ?_)
      clear hcall
      obtain ⟨rfl, rfl, rfl⟩ := ou3 hf
      rw [hQ]
      exact W.iret hx hb hr (fun t ht hW => ⟨⟨_, (), rfl, rfl, by rw [ht]; exact hP, va_K.moved hW.alike hK, hD⟩, hS.F ht⟩) hS.2.2 dX11_next_55
    ·
      replace hf := ite_t ((z_eq0 hr3).mp cc) hf
      clear cc
      refine lv_iconst (v := Int32.ofInt (-1 : Int)) hx hb dX11_next_22 (by decide) ?_
      obtain ⟨rfl, rfl, rfl⟩ := ou3 hf
      rw [hQ]
      exact W.iret hx hb hr (fun t ht hW => ⟨⟨_, (), rfl, rfl, by rw [ht]; exact hP, va_K.moved hW.alike hK, hD⟩, hS.F ht⟩) hS.2.2 dX11_next_23

noncomputable def f_X11_day (i_p0_rules_seats : Int) (i_p0_rules_stirs : Int) (v_p0_rules_after : (Int → Int)) (i_p0_state_bone : Int) (i_p0_state_king : Int) (i_p0_state_days : Int) (v_p0_state_pieces : (Int → Int)) (v_p0_state_friends : (Int → Int)) (v_p0_state_eaten : (Int → Int)) (v_p0_kitchen_places : (Int → Int)) (v_p0_kitchen_holders : (Int → Int)) (v_p0_kitchen_stirred : (Int → Int)) (x1 : Int) : Option (Int × Int × Int × Int × (Int → Int) × (Int → Int) × (Int → Int) × (Int → Int) × (Int → Int)) := (bd1 (f_X6_hasStir i_p0_rules_stirs x1) (fun (z1 : Int) => (ck (z_r32 z1) (if z1 = (0 : Int) then (some ((-1 : Int), i_p0_state_bone, i_p0_state_king, i_p0_state_days, v_p0_state_pieces, v_p0_state_eaten, v_p0_kitchen_places, v_p0_kitchen_holders, v_p0_kitchen_stirred)) else (ck (z_r32 i_p0_state_days) (if i_p0_state_days < (999 : Int) then (bd8 (f_X2_passDay i_p0_rules_seats v_p0_rules_after i_p0_state_bone i_p0_state_king i_p0_state_days v_p0_state_pieces v_p0_state_friends v_p0_state_eaten v_p0_kitchen_places v_p0_kitchen_holders v_p0_kitchen_stirred x1) (fun (z4 : Int) (z5 : Int) (z6 : Int) (w7 : (Int → Int)) (w8 : (Int → Int)) (w9 : (Int → Int)) (w10 : (Int → Int)) (w11 : (Int → Int)) => (some (z5, z4, z5, z6, w7, w8, w9, w10, w11)))) else (some ((-3 : Int), i_p0_state_bone, i_p0_state_king, i_p0_state_days, v_p0_state_pieces, v_p0_state_eaten, v_p0_kitchen_places, v_p0_kitchen_holders, v_p0_kitchen_stirred))))))))
abbrev rm_X11_day : Room := { frames := 4, cells := 0, slots := 0, locals := 90 }
theorem inX11_day_X11 : ∀ w ∈ wsX110, w ∈ wsX11_day := by first | exact fun w h => List.mem_cons_of_mem _ (List.mem_append_left _ (List.mem_append_left _ (List.mem_append_left _ (List.mem_append_right _ h)))) | decide +kernel
theorem mwX11_day_1 : Cond.fieldLink RX11 10 "LadleKings" "rules" "LLadleKings$Rules;" ∈ wsX11_day := by first | exact List.mem_of_getElem? (i := 1) rfl | decide +kernel
theorem mwX11_day_2 : Cond.fieldLink RX11 19 "LadleKings" "state" "LLadleKings$State;" ∈ wsX11_day := by first | exact List.mem_of_getElem? (i := 2) rfl | decide +kernel
theorem inX11_day_X8 : ∀ w ∈ wsX80, w ∈ wsX11_day := by first | exact fun w h => List.mem_cons_of_mem _ (List.mem_append_left _ (List.mem_append_left _ (List.mem_append_right _ h))) | decide +kernel
theorem mwX11_day_4 : Cond.fieldLink RX11 139 "LadleKings$State" "days" "I" ∈ wsX11_day := by first | exact List.mem_of_getElem? (i := 3) rfl | decide +kernel
theorem mwX11_day_5 : Cond.fieldLink RX11 44 "LadleKings" "kitchen" "LLadleKings$Kitchen;" ∈ wsX11_day := by first | exact List.mem_of_getElem? (i := 4) rfl | decide +kernel
theorem hdV_yX2_passDay_RX2 : yX2_passDay.cls = RX2 ∧ yX2_passDay.cls ≠ "java/lang/invoke/MethodHandle" ∧ yX2_passDay.cls ≠ "java/lang/invoke/VarHandle" ∧ (parseMethodDescriptor yX2_passDay.desc).map (fun d => d.parameters.length) = some 1 := by decide +kernel
theorem mwX11_day_7 : Cond.fieldLink RX11 136 "LadleKings$State" "king" "I" ∈ wsX11_day := by first | exact List.mem_of_getElem? (i := 5) rfl | decide +kernel
set_option maxHeartbeats 8000000 in
set_option maxRecDepth 100000 in
theorem c_X11_day (l : Launch) (D : va_G) (G : Nat → ClassId) (sz : Nat) (a_p0 : Nat) (a_p0_rules : Nat) (a_p0_state : Nat) (a_p0_tape : Nat) (a_p0_reader : Nat) (a_p0_kitchen : Nat) (a_p0_luck : Nat) (a_p0_plans : Nat) (a_p0_coups : Nat) (a_p0_past : Nat) (a_p0_fairDays : Nat) (a_p0_images : Nat) (a_p0_imageHeld : Nat) (a_p0_sheets : Nat) (a_p0_rules_need : Nat) (a_p0_rules_kind : Nat) (a_p0_rules_first : Nat) (a_p0_rules_second : Nat) (a_p0_rules_after : Nat) (a_p0_state_pieces : Nat) (a_p0_state_friends : Nat) (a_p0_state_spoons : Nat) (a_p0_state_eaten : Nat) (a_p0_state_seen : Nat) (a_p0_kitchen_places : Nat) (a_p0_kitchen_holders : Nat) (a_p0_kitchen_stirred : Nat) (i_p0_latestFault : Int) (i_p0_latestTear : Int) (i_p0_rules_seats : Int) (i_p0_rules_stirs : Int) (v_p0_rules_after : (Int → Int)) (i_p0_state_seenDays : Int) (i_p0_state_bone : Int) (i_p0_state_king : Int) (i_p0_state_days : Int) (v_p0_state_pieces : (Int → Int)) (v_p0_state_friends : (Int → Int)) (v_p0_state_eaten : (Int → Int)) (v_p0_kitchen_places : (Int → Int)) (v_p0_kitchen_holders : (Int → Int)) (v_p0_kitchen_stirred : (Int → Int)) (x1 : Int) (r : Int) (o_i_p0_state_bone : Int) (o_i_p0_state_king : Int) (o_i_p0_state_days : Int) (o_v_p0_state_pieces : (Int → Int)) (o_v_p0_state_eaten : (Int → Int)) (o_v_p0_kitchen_places : (Int → Int)) (o_v_p0_kitchen_holders : (Int → Int)) (o_v_p0_kitchen_stirred : (Int → Int)) (hf : f_X11_day i_p0_rules_seats i_p0_rules_stirs v_p0_rules_after i_p0_state_bone i_p0_state_king i_p0_state_days v_p0_state_pieces v_p0_state_friends v_p0_state_eaten v_p0_kitchen_places v_p0_kitchen_holders v_p0_kitchen_stirred x1 = some (r, o_i_p0_state_bone, o_i_p0_state_king, o_i_p0_state_days, o_v_p0_state_pieces, o_v_p0_state_eaten, o_v_p0_kitchen_places, o_v_p0_kitchen_holders, o_v_p0_kitchen_stirred)) : Met l yX11_day wsX11_day rm_X11_day (pcG D G [.ref a_p0, .int (Int32.ofInt x1)] sz [(a_p0, .inr (11, [.ref a_p0_rules, .ref a_p0_state, .ref a_p0_tape, .ref a_p0_reader, .ref a_p0_kitchen, .ref a_p0_luck, .ref a_p0_plans, .ref a_p0_coups, .ref a_p0_past, .ref a_p0_fairDays, .ref a_p0_images, .ref a_p0_imageHeld, .ref a_p0_sheets, .int (Int32.ofInt i_p0_latestFault), .int (Int32.ofInt i_p0_latestTear)])), (a_p0_rules, .inr (6, [.int (Int32.ofInt i_p0_rules_seats), .int (Int32.ofInt i_p0_rules_stirs), .ref a_p0_rules_need, .ref a_p0_rules_kind, .ref a_p0_rules_first, .ref a_p0_rules_second, .ref a_p0_rules_after])), (a_p0_rules_after, .inl (G 1, 35, .inl (zA v_p0_rules_after))), (a_p0_state, .inr (8, [.ref a_p0_state_pieces, .ref a_p0_state_friends, .ref a_p0_state_spoons, .ref a_p0_state_eaten, .ref a_p0_state_seen, .int (Int32.ofInt i_p0_state_seenDays), .int (Int32.ofInt i_p0_state_bone), .int (Int32.ofInt i_p0_state_king), .int (Int32.ofInt i_p0_state_days)])), (a_p0_state_pieces, .inl (G 1, 7, .inl (zA v_p0_state_pieces))), (a_p0_state_friends, .inl (G 1, 7, .inl (zA v_p0_state_friends))), (a_p0_state_eaten, .inl (G 1, 7, .inl (zA v_p0_state_eaten))), (a_p0_kitchen, .inr (2, [.ref a_p0_rules, .ref a_p0_state, .ref a_p0_kitchen_places, .ref a_p0_kitchen_holders, .ref a_p0_kitchen_stirred])), (a_p0_kitchen_places, .inl (G 1, 49, .inl (zA v_p0_kitchen_places))), (a_p0_kitchen_holders, .inl (G 1, 49, .inl (zA v_p0_kitchen_holders))), (a_p0_kitchen_stirred, .inl (G 1, 7, .inl (zA v_p0_kitchen_stirred)))]) (qcI D G (Int32.ofInt r) [(a_p0, .inr (11, [.ref a_p0_rules, .ref a_p0_state, .ref a_p0_tape, .ref a_p0_reader, .ref a_p0_kitchen, .ref a_p0_luck, .ref a_p0_plans, .ref a_p0_coups, .ref a_p0_past, .ref a_p0_fairDays, .ref a_p0_images, .ref a_p0_imageHeld, .ref a_p0_sheets, .int (Int32.ofInt i_p0_latestFault), .int (Int32.ofInt i_p0_latestTear)])), (a_p0_rules, .inr (6, [.int (Int32.ofInt i_p0_rules_seats), .int (Int32.ofInt i_p0_rules_stirs), .ref a_p0_rules_need, .ref a_p0_rules_kind, .ref a_p0_rules_first, .ref a_p0_rules_second, .ref a_p0_rules_after])), (a_p0_rules_after, .inl (G 1, 35, .inl (zA v_p0_rules_after))), (a_p0_state, .inr (8, [.ref a_p0_state_pieces, .ref a_p0_state_friends, .ref a_p0_state_spoons, .ref a_p0_state_eaten, .ref a_p0_state_seen, .int (Int32.ofInt i_p0_state_seenDays), .int (Int32.ofInt o_i_p0_state_bone), .int (Int32.ofInt o_i_p0_state_king), .int (Int32.ofInt o_i_p0_state_days)])), (a_p0_state_pieces, .inl (G 1, 7, .inl (zA o_v_p0_state_pieces))), (a_p0_state_friends, .inl (G 1, 7, .inl (zA v_p0_state_friends))), (a_p0_state_eaten, .inl (G 1, 7, .inl (zA o_v_p0_state_eaten))), (a_p0_kitchen, .inr (2, [.ref a_p0_rules, .ref a_p0_state, .ref a_p0_kitchen_places, .ref a_p0_kitchen_holders, .ref a_p0_kitchen_stirred])), (a_p0_kitchen_places, .inl (G 1, 49, .inl (zA o_v_p0_kitchen_places))), (a_p0_kitchen_holders, .inl (G 1, 49, .inl (zA o_v_p0_kitchen_holders))), (a_p0_kitchen_stirred, .inl (G 1, 7, .inl (zA o_v_p0_kitchen_stirred)))] (va_A [(a_p0, .inr (11, [.ref a_p0_rules, .ref a_p0_state, .ref a_p0_tape, .ref a_p0_reader, .ref a_p0_kitchen, .ref a_p0_luck, .ref a_p0_plans, .ref a_p0_coups, .ref a_p0_past, .ref a_p0_fairDays, .ref a_p0_images, .ref a_p0_imageHeld, .ref a_p0_sheets, .int (Int32.ofInt i_p0_latestFault), .int (Int32.ofInt i_p0_latestTear)])), (a_p0_rules, .inr (6, [.int (Int32.ofInt i_p0_rules_seats), .int (Int32.ofInt i_p0_rules_stirs), .ref a_p0_rules_need, .ref a_p0_rules_kind, .ref a_p0_rules_first, .ref a_p0_rules_second, .ref a_p0_rules_after])), (a_p0_rules_after, .inl (G 1, 35, .inl (zA v_p0_rules_after))), (a_p0_state, .inr (8, [.ref a_p0_state_pieces, .ref a_p0_state_friends, .ref a_p0_state_spoons, .ref a_p0_state_eaten, .ref a_p0_state_seen, .int (Int32.ofInt i_p0_state_seenDays), .int (Int32.ofInt i_p0_state_bone), .int (Int32.ofInt i_p0_state_king), .int (Int32.ofInt i_p0_state_days)])), (a_p0_state_pieces, .inl (G 1, 7, .inl (zA v_p0_state_pieces))), (a_p0_state_friends, .inl (G 1, 7, .inl (zA v_p0_state_friends))), (a_p0_state_eaten, .inl (G 1, 7, .inl (zA v_p0_state_eaten))), (a_p0_kitchen, .inr (2, [.ref a_p0_rules, .ref a_p0_state, .ref a_p0_kitchen_places, .ref a_p0_kitchen_holders, .ref a_p0_kitchen_stirred])), (a_p0_kitchen_places, .inl (G 1, 49, .inl (zA v_p0_kitchen_places))), (a_p0_kitchen_holders, .inl (G 1, 49, .inl (zA v_p0_kitchen_holders))), (a_p0_kitchen_stirred, .inl (G 1, 7, .inl (zA v_p0_kitchen_stirred)))] sz)) 0 0 (va_A [(a_p0, .inr (11, [.ref a_p0_rules, .ref a_p0_state, .ref a_p0_tape, .ref a_p0_reader, .ref a_p0_kitchen, .ref a_p0_luck, .ref a_p0_plans, .ref a_p0_coups, .ref a_p0_past, .ref a_p0_fairDays, .ref a_p0_images, .ref a_p0_imageHeld, .ref a_p0_sheets, .int (Int32.ofInt i_p0_latestFault), .int (Int32.ofInt i_p0_latestTear)])), (a_p0_rules, .inr (6, [.int (Int32.ofInt i_p0_rules_seats), .int (Int32.ofInt i_p0_rules_stirs), .ref a_p0_rules_need, .ref a_p0_rules_kind, .ref a_p0_rules_first, .ref a_p0_rules_second, .ref a_p0_rules_after])), (a_p0_rules_after, .inl (G 1, 35, .inl (zA v_p0_rules_after))), (a_p0_state, .inr (8, [.ref a_p0_state_pieces, .ref a_p0_state_friends, .ref a_p0_state_spoons, .ref a_p0_state_eaten, .ref a_p0_state_seen, .int (Int32.ofInt i_p0_state_seenDays), .int (Int32.ofInt i_p0_state_bone), .int (Int32.ofInt i_p0_state_king), .int (Int32.ofInt i_p0_state_days)])), (a_p0_state_pieces, .inl (G 1, 7, .inl (zA v_p0_state_pieces))), (a_p0_state_friends, .inl (G 1, 7, .inl (zA v_p0_state_friends))), (a_p0_state_eaten, .inl (G 1, 7, .inl (zA v_p0_state_eaten))), (a_p0_kitchen, .inr (2, [.ref a_p0_rules, .ref a_p0_state, .ref a_p0_kitchen_places, .ref a_p0_kitchen_holders, .ref a_p0_kitchen_stirred])), (a_p0_kitchen_places, .inl (G 1, 49, .inl (zA v_p0_kitchen_places))), (a_p0_kitchen_holders, .inl (G 1, 49, .inl (zA v_p0_kitchen_holders))), (a_p0_kitchen_stirred, .inl (G 1, 7, .inl (zA v_p0_kitchen_stirred)))] sz) := by
  refine Met.ofW (cc := cX11_day) (maxL := 2) (ret := (some .int)) (by decide) rfl ?_
  intro p e s m args below meth c s₁ B hml hv
  obtain ⟨rfl, hsz, hP, hK, hD0⟩ := hv
  have hx := B.exec
  have hb := B.bytes
  have hr := B.returns
  have hts := atoms_spec (ws := wsX11_day) B.pre
  have hown : s.vm.findClass RX11 = some m.cls := findClass_of_methodNamed B.named
  have hlocks := B.notSynchronized
  subst hsz
  have hD := hD0.self (sz := s.heap.size)
  generalize hAe : va_A [(a_p0, .inr (11, [.ref a_p0_rules, .ref a_p0_state, .ref a_p0_tape, .ref a_p0_reader, .ref a_p0_kitchen, .ref a_p0_luck, .ref a_p0_plans, .ref a_p0_coups, .ref a_p0_past, .ref a_p0_fairDays, .ref a_p0_images, .ref a_p0_imageHeld, .ref a_p0_sheets, .int (Int32.ofInt i_p0_latestFault), .int (Int32.ofInt i_p0_latestTear)])), (a_p0_rules, .inr (6, [.int (Int32.ofInt i_p0_rules_seats), .int (Int32.ofInt i_p0_rules_stirs), .ref a_p0_rules_need, .ref a_p0_rules_kind, .ref a_p0_rules_first, .ref a_p0_rules_second, .ref a_p0_rules_after])), (a_p0_rules_after, .inl (G 1, 35, .inl (zA v_p0_rules_after))), (a_p0_state, .inr (8, [.ref a_p0_state_pieces, .ref a_p0_state_friends, .ref a_p0_state_spoons, .ref a_p0_state_eaten, .ref a_p0_state_seen, .int (Int32.ofInt i_p0_state_seenDays), .int (Int32.ofInt i_p0_state_bone), .int (Int32.ofInt i_p0_state_king), .int (Int32.ofInt i_p0_state_days)])), (a_p0_state_pieces, .inl (G 1, 7, .inl (zA v_p0_state_pieces))), (a_p0_state_friends, .inl (G 1, 7, .inl (zA v_p0_state_friends))), (a_p0_state_eaten, .inl (G 1, 7, .inl (zA v_p0_state_eaten))), (a_p0_kitchen, .inr (2, [.ref a_p0_rules, .ref a_p0_state, .ref a_p0_kitchen_places, .ref a_p0_kitchen_holders, .ref a_p0_kitchen_stirred])), (a_p0_kitchen_places, .inl (G 1, 49, .inl (zA v_p0_kitchen_places))), (a_p0_kitchen_holders, .inl (G 1, 49, .inl (zA v_p0_kitchen_holders))), (a_p0_kitchen_stirred, .inl (G 1, 7, .inl (zA v_p0_kitchen_stirred)))] s.heap.size = A at hD ⊢
  have hA : ∀ q : Nat, s.heap.size ≤ q → A q := fun q h => by rw [← hAe]; exact Or.inr h
  clear hAe hD0
  have hS : va_S A s.heap s.heap [] := va_S.rf
  have hl := lv_entry ([.ref a_p0, .int (Int32.ofInt x1)]) (n := 2) (Nat.le_of_ble_eq_true rfl)
  rw [lg_entry_eq]
  generalize (lg_sl ([.ref a_p0, .int (Int32.ofInt x1)]) ++ List.replicate (2 - (lg_sl ([.ref a_p0, .int (Int32.ofInt x1)])).length) Slot.unset).toArray = ls at hl ⊢
  have hl : lv_has ls 2 [(0, .ref a_p0), (1, .int (Int32.ofInt x1))] := hl
  refine W_nameQ (fun Q hQ => ?_)
  obtain ⟨H, hH⟩ : ∃ H, H = s.heap := ⟨_, rfl⟩
  replace hS : va_S A s.heap H [] := by rw [hH]; exact hS
  replace hP : va_P D vwCl [(a_p0, .inr (11, [.ref a_p0_rules, .ref a_p0_state, .ref a_p0_tape, .ref a_p0_reader, .ref a_p0_kitchen, .ref a_p0_luck, .ref a_p0_plans, .ref a_p0_coups, .ref a_p0_past, .ref a_p0_fairDays, .ref a_p0_images, .ref a_p0_imageHeld, .ref a_p0_sheets, .int (Int32.ofInt i_p0_latestFault), .int (Int32.ofInt i_p0_latestTear)])), (a_p0_rules, .inr (6, [.int (Int32.ofInt i_p0_rules_seats), .int (Int32.ofInt i_p0_rules_stirs), .ref a_p0_rules_need, .ref a_p0_rules_kind, .ref a_p0_rules_first, .ref a_p0_rules_second, .ref a_p0_rules_after])), (a_p0_rules_after, .inl (G 1, 35, .inl (zA v_p0_rules_after))), (a_p0_state, .inr (8, [.ref a_p0_state_pieces, .ref a_p0_state_friends, .ref a_p0_state_spoons, .ref a_p0_state_eaten, .ref a_p0_state_seen, .int (Int32.ofInt i_p0_state_seenDays), .int (Int32.ofInt i_p0_state_bone), .int (Int32.ofInt i_p0_state_king), .int (Int32.ofInt i_p0_state_days)])), (a_p0_state_pieces, .inl (G 1, 7, .inl (zA v_p0_state_pieces))), (a_p0_state_friends, .inl (G 1, 7, .inl (zA v_p0_state_friends))), (a_p0_state_eaten, .inl (G 1, 7, .inl (zA v_p0_state_eaten))), (a_p0_kitchen, .inr (2, [.ref a_p0_rules, .ref a_p0_state, .ref a_p0_kitchen_places, .ref a_p0_kitchen_holders, .ref a_p0_kitchen_stirred])), (a_p0_kitchen_places, .inl (G 1, 49, .inl (zA v_p0_kitchen_places))), (a_p0_kitchen_holders, .inl (G 1, 49, .inl (zA v_p0_kitchen_holders))), (a_p0_kitchen_stirred, .inl (G 1, 7, .inl (zA v_p0_kitchen_stirred)))] H := by rw [hH]; exact hP
  rw [← hH]
  clear hH
  unfold f_X11_day at hf
  refine lv_aload_n hx hb dX11_day_0 rfl (lv_at hl 0 rfl) ?_
  refine va_get (D := D) (ci := 11) (v := .ref a_p0_rules) (C := RX11) (T := TX11) (N := 15) hx hb hts inX11_day_X11 hown hK hP 0 rfl rfl 0 (by decide) (hts _ mwX11_day_1) (fun _ h9 => h9) rfl dX11_day_1 ?_
  refine lv_iload_n hx hb dX11_day_4 rfl (lv_at hl 1 rfl) ?_
  have hq := bd1_s hf
  clear hf
  obtain ⟨z1, hcall, hf⟩ := hq
  refine gnI (va_runV (As := [.int (Int32.ofInt x1)]) (rest := []) ⟨hx, hb, hml, hown, hts⟩ (c_X6_hasStir (l := l) (D := D) (G := G) (sz := H.size) (a_p0 := a_p0_rules) (a_p0_need := a_p0_rules_need) (a_p0_kind := a_p0_rules_kind) (a_p0_first := a_p0_rules_first) (a_p0_second := a_p0_rules_second) (a_p0_after := a_p0_rules_after) (i_p0_seats := i_p0_rules_seats) (i_p0_stirs := i_p0_rules_stirs) (x1 := x1) (r := z1) (hf := hcall)) (cwV 1 hts gX11_day_X6_hasStir rfl rfl rfl hdV_yX6_hasStir_RX6 ⟨Nat.le_of_ble_eq_true rfl, Nat.le_of_ble_eq_true rfl⟩) (preG_V (ci := 6) (q := (RX6, TX6, 7)) (hP.sub [1] rfl) (hD.sub [1] rfl rfl) hK rfl rfl) rfl rfl hl.1 rfl (lv_room (Nat.le_of_ble_eq_true rfl)) dX11_day_5 ⟨Nat.le_of_ble_eq_true rfl, Nat.le_of_ble_eq_true rfl⟩) hP hD hS hA [1] rfl (fun H locs hP hD hS => ?_)
  clear hcall
  have hr1 := ck_c hf
  replace hf := ck_r hf
  refine lv_if_ne (tgt := 13) hx hb dX11_day_8 (by decide) (fun cc => ?_) (fun cc => ?_)
  ·
    replace hf := ite_f (fun h9 => cc ((z_eq0 hr1).mpr h9)) hf
    clear cc
    refine lv_aload_n hx hb dX11_day_13 rfl (lv_at hl 0 rfl) ?_
    refine va_get (D := D) (ci := 11) (v := .ref a_p0_state) (C := RX11) (T := TX11) (N := 15) hx hb hts inX11_day_X11 hown hK hP 0 rfl rfl 1 (by decide) (hts _ mwX11_day_2) (fun _ h9 => h9) rfl dX11_day_14 ?_
    refine va_get (D := D) (ci := 8) (v := .int (Int32.ofInt i_p0_state_days)) (C := RX8) (T := TX8) (N := 9) hx hb hts inX11_day_X8 hown hK hP 3 rfl rfl 8 (by decide) (hts _ mwX11_day_4) (fun _ h9 => h9) rfl dX11_day_17 ?_
    refine lv_sipush (v := Int32.ofInt (999 : Int)) hx hb dX11_day_20 (by decide) ?_
    have hr2 := ck_c hf
    replace hf := ck_r hf
    refine lv_icmp_lt (tgt := 29) hx hb dX11_day_23 (by decide) (fun cc => ?_) (fun cc => ?_)
    ·
      replace hf := ite_t ((z_lt hr2 (by decide)).mp cc) hf
      clear cc
      refine lv_aload_n hx hb dX11_day_29 rfl (lv_at hl 0 rfl) ?_
      refine va_get (D := D) (ci := 11) (v := .ref a_p0_kitchen) (C := RX11) (T := TX11) (N := 15) hx hb hts inX11_day_X11 hown hK hP 0 rfl rfl 4 (by decide) (hts _ mwX11_day_5) (fun _ h9 => h9) rfl dX11_day_30 ?_
      refine lv_iload_n hx hb dX11_day_33 rfl (lv_at hl 1 rfl) ?_
      have hq := bd8_s hf
      clear hf
      obtain ⟨z4, z5, z6, w7, w8, w9, w10, w11, hcall, hf⟩ := hq
      refine gcV (ws' := [(a_p0, .inr (11, [.ref a_p0_rules, .ref a_p0_state, .ref a_p0_tape, .ref a_p0_reader, .ref a_p0_kitchen, .ref a_p0_luck, .ref a_p0_plans, .ref a_p0_coups, .ref a_p0_past, .ref a_p0_fairDays, .ref a_p0_images, .ref a_p0_imageHeld, .ref a_p0_sheets, .int (Int32.ofInt i_p0_latestFault), .int (Int32.ofInt i_p0_latestTear)])), (a_p0_rules, .inr (6, [.int (Int32.ofInt i_p0_rules_seats), .int (Int32.ofInt i_p0_rules_stirs), .ref a_p0_rules_need, .ref a_p0_rules_kind, .ref a_p0_rules_first, .ref a_p0_rules_second, .ref a_p0_rules_after])), (a_p0_rules_after, .inl (G 1, 35, .inl (zA v_p0_rules_after))), (a_p0_state, .inr (8, [.ref a_p0_state_pieces, .ref a_p0_state_friends, .ref a_p0_state_spoons, .ref a_p0_state_eaten, .ref a_p0_state_seen, .int (Int32.ofInt i_p0_state_seenDays), .int (Int32.ofInt z4), .int (Int32.ofInt z5), .int (Int32.ofInt z6)])), (a_p0_state_pieces, .inl (G 1, 7, .inl (zA w7))), (a_p0_state_friends, .inl (G 1, 7, .inl (zA v_p0_state_friends))), (a_p0_state_eaten, .inl (G 1, 7, .inl (zA w8))), (a_p0_kitchen, .inr (2, [.ref a_p0_rules, .ref a_p0_state, .ref a_p0_kitchen_places, .ref a_p0_kitchen_holders, .ref a_p0_kitchen_stirred])), (a_p0_kitchen_places, .inl (G 1, 49, .inl (zA w9))), (a_p0_kitchen_holders, .inl (G 1, 49, .inl (zA w10))), (a_p0_kitchen_stirred, .inl (G 1, 7, .inl (zA w11)))]) (va_runV (As := [.int (Int32.ofInt x1)]) (rest := []) ⟨hx, hb, hml, hown, hts⟩ (c_X2_passDay (l := l) (D := D) (G := G) (sz := H.size) (a_p0 := a_p0_kitchen) (a_p0_rules := a_p0_rules) (a_p0_state := a_p0_state) (a_p0_places := a_p0_kitchen_places) (a_p0_holders := a_p0_kitchen_holders) (a_p0_stirred := a_p0_kitchen_stirred) (a_p0_rules_need := a_p0_rules_need) (a_p0_rules_kind := a_p0_rules_kind) (a_p0_rules_first := a_p0_rules_first) (a_p0_rules_second := a_p0_rules_second) (a_p0_rules_after := a_p0_rules_after) (a_p0_state_pieces := a_p0_state_pieces) (a_p0_state_friends := a_p0_state_friends) (a_p0_state_spoons := a_p0_state_spoons) (a_p0_state_eaten := a_p0_state_eaten) (a_p0_state_seen := a_p0_state_seen) (i_p0_rules_seats := i_p0_rules_seats) (i_p0_rules_stirs := i_p0_rules_stirs) (v_p0_rules_after := v_p0_rules_after) (i_p0_state_seenDays := i_p0_state_seenDays) (i_p0_state_bone := i_p0_state_bone) (i_p0_state_king := i_p0_state_king) (i_p0_state_days := i_p0_state_days) (v_p0_state_pieces := v_p0_state_pieces) (v_p0_state_friends := v_p0_state_friends) (v_p0_state_eaten := v_p0_state_eaten) (v_p0_places := v_p0_kitchen_places) (v_p0_holders := v_p0_kitchen_holders) (v_p0_stirred := v_p0_kitchen_stirred) (x1 := x1) (o_i_p0_state_bone := z4) (o_i_p0_state_king := z5) (o_i_p0_state_days := z6) (o_v_p0_state_pieces := w7) (o_v_p0_state_eaten := w8) (o_v_p0_places := w9) (o_v_p0_holders := w10) (o_v_p0_stirred := w11) (hf := hcall)) (cwV 1 hts gX11_day_X2_passDay rfl rfl rfl hdV_yX2_passDay_RX2 ⟨Nat.le_of_ble_eq_true rfl, Nat.le_of_ble_eq_true rfl⟩) (preG_V (ci := 2) (q := (RX2, TX2, 5)) (hP.sub [7, 1, 2, 3, 4, 5, 6, 8, 9, 10] rfl) (hD.sub [7, 1, 2, 3, 4, 5, 6, 8, 9, 10] rfl rfl) hK rfl rfl) rfl rfl hl.1 rfl (lv_room (Nat.le_of_ble_eq_true rfl)) dX11_day_34 ⟨Nat.le_of_ble_eq_true rfl, Nat.le_of_ble_eq_true rfl⟩) hP hD hS hA [7, 1, 2, 3, 4, 5, 6, 8, 9, 10] [0] [0, 2, 3, 4, 5, 6, 7, 1, 8, 9, 10] rfl rfl rfl (by decide) rfl rfl rfl (fun H locs hP hD hS => ?_)
      clear hcall
      refine lv_aload_n hx hb dX11_day_37 rfl (lv_at hl 0 rfl) ?_
      refine va_get (D := D) (ci := 11) (v := .ref a_p0_state) (C := RX11) (T := TX11) (N := 15) hx hb hts inX11_day_X11 hown hK hP 0 rfl rfl 1 (by decide) (hts _ mwX11_day_2) (fun _ h9 => h9) rfl dX11_day_38 ?_
      refine va_get (D := D) (ci := 8) (v := .int (Int32.ofInt z5)) (C := RX8) (T := TX8) (N := 9) hx hb hts inX11_day_X8 hown hK hP 3 rfl rfl 7 (by decide) (hts _ mwX11_day_7) (fun _ h9 => h9) rfl dX11_day_41 ?_
      obtain ⟨rfl, rfl, rfl, rfl, rfl, rfl, rfl, rfl, rfl⟩ := ou9 hf
      rw [hQ]
      exact W.iret hx hb hr (fun t ht hW => ⟨⟨_, (), rfl, rfl, by rw [ht]; exact hP, va_K.moved hW.alike hK, hD⟩, hS.F ht⟩) hS.2.2 dX11_day_44
    ·
      replace hf := ite_f (fun h9 => cc ((z_lt hr2 (by decide)).mpr h9)) hf
      clear cc
      refine lv_bipush (v := Int32.ofInt (-3 : Int)) hx hb dX11_day_26 (by decide) ?_
      obtain ⟨rfl, rfl, rfl, rfl, rfl, rfl, rfl, rfl, rfl⟩ := ou9 hf
      rw [hQ]
      exact W.iret hx hb hr (fun t ht hW => ⟨⟨_, (), rfl, rfl, by rw [ht]; exact hP, va_K.moved hW.alike hK, hD⟩, hS.F ht⟩) hS.2.2 dX11_day_28
  ·
    replace hf := ite_t ((z_eq0 hr1).mp cc) hf
    clear cc
    refine lv_iconst (v := Int32.ofInt (-1 : Int)) hx hb dX11_day_11 (by decide) ?_
    obtain ⟨rfl, rfl, rfl, rfl, rfl, rfl, rfl, rfl, rfl⟩ := ou9 hf
    rw [hQ]
    exact W.iret hx hb hr (fun t ht hW => ⟨⟨_, (), rfl, rfl, by rw [ht]; exact hP, va_K.moved hW.alike hK, hD⟩, hS.F ht⟩) hS.2.2 dX11_day_12

noncomputable def B_X11_hungry_4 (i_p0_rules_seats : Int) (v_p0_state_eaten : (Int → Int)) (v_p0_rules_need : (Int → Int)) (i_p0_state_days : Int) (again4 : Int → Int → Option (Int)) (z3 : Int) (z4 : Int) : Option (Int) := (ck (z_r32 z3) (ck (z_r32 i_p0_rules_seats) (if i_p0_rules_seats ≤ z3 then (some z4) else (ck (z_ix z3 7) (ck (z_ix z3 7) (ck (z_r32 (v_p0_state_eaten z3)) (ck (z_r32 ((v_p0_rules_need z3) * i_p0_state_days)) (if ((v_p0_rules_need z3) * i_p0_state_days) ≤ (v_p0_state_eaten z3) then (bnd (z3 + (1 : Int)) (fun (z10 : Int) => (again4 z10 z4))) else (bnd (z_or z4 (z_shl (1 : Int) z3)) (fun (z11 : Int) => (bnd (z3 + (1 : Int)) (fun (z12 : Int) => (again4 z12 z11)))))))))))))
noncomputable def f_X11_hungry (i_p0_rules_seats : Int) (v_p0_rules_need : (Int → Int)) (i_p0_state_days : Int) (v_p0_state_eaten : (Int → Int)) : Option (Int) := (bnd (0 : Int) (fun (z1 : Int) => (bnd (0 : Int) (fun (z2 : Int) => (lq2 (B_X11_hungry_4 i_p0_rules_seats v_p0_state_eaten v_p0_rules_need i_p0_state_days) 1000 z2 z1)))))
abbrev rm_X11_hungry : Room := { frames := 0, cells := 0, slots := 0, locals := 0 }
theorem inX11_hungry_X11 : ∀ w ∈ wsX110, w ∈ wsX11_hungry := by first | exact fun w h => List.mem_cons_of_mem _ (List.mem_append_left _ (List.mem_append_left _ (List.mem_append_right _ h))) | decide +kernel
theorem mwX11_hungry_1 : Cond.fieldLink RX11 10 "LadleKings" "rules" "LLadleKings$Rules;" ∈ wsX11_hungry := by first | exact List.mem_of_getElem? (i := 1) rfl | decide +kernel
theorem inX11_hungry_X6 : ∀ w ∈ wsX60, w ∈ wsX11_hungry := by first | exact fun w h => List.mem_cons_of_mem _ (List.mem_append_left _ (List.mem_append_right _ h)) | decide +kernel
theorem mwX11_hungry_3 : Cond.fieldLink RX11 130 "LadleKings$Rules" "seats" "I" ∈ wsX11_hungry := by first | exact List.mem_of_getElem? (i := 2) rfl | decide +kernel
theorem mwX11_hungry_4 : Cond.fieldLink RX11 19 "LadleKings" "state" "LLadleKings$State;" ∈ wsX11_hungry := by first | exact List.mem_of_getElem? (i := 3) rfl | decide +kernel
theorem inX11_hungry_X8 : ∀ w ∈ wsX80, w ∈ wsX11_hungry := by first | exact fun w h => List.mem_cons_of_mem _ (List.mem_append_right _ h) | decide +kernel
theorem mwX11_hungry_6 : Cond.fieldLink RX11 162 "LadleKings$State" "eaten" "[I" ∈ wsX11_hungry := by first | exact List.mem_of_getElem? (i := 4) rfl | decide +kernel
theorem mwX11_hungry_7 : Cond.fieldLink RX11 159 "LadleKings$Rules" "need" "[I" ∈ wsX11_hungry := by first | exact List.mem_of_getElem? (i := 5) rfl | decide +kernel
theorem mwX11_hungry_8 : Cond.fieldLink RX11 139 "LadleKings$State" "days" "I" ∈ wsX11_hungry := by first | exact List.mem_of_getElem? (i := 6) rfl | decide +kernel
set_option maxHeartbeats 8000000 in
set_option maxRecDepth 100000 in
theorem c_X11_hungry (l : Launch) (D : va_G) (G : Nat → ClassId) (sz : Nat) (a_p0 : Nat) (a_p0_rules : Nat) (a_p0_state : Nat) (a_p0_tape : Nat) (a_p0_reader : Nat) (a_p0_kitchen : Nat) (a_p0_luck : Nat) (a_p0_plans : Nat) (a_p0_coups : Nat) (a_p0_past : Nat) (a_p0_fairDays : Nat) (a_p0_images : Nat) (a_p0_imageHeld : Nat) (a_p0_sheets : Nat) (a_p0_rules_need : Nat) (a_p0_rules_kind : Nat) (a_p0_rules_first : Nat) (a_p0_rules_second : Nat) (a_p0_rules_after : Nat) (a_p0_state_pieces : Nat) (a_p0_state_friends : Nat) (a_p0_state_spoons : Nat) (a_p0_state_eaten : Nat) (a_p0_state_seen : Nat) (i_p0_latestFault : Int) (i_p0_latestTear : Int) (i_p0_rules_seats : Int) (i_p0_rules_stirs : Int) (v_p0_rules_need : (Int → Int)) (i_p0_state_seenDays : Int) (i_p0_state_bone : Int) (i_p0_state_king : Int) (i_p0_state_days : Int) (v_p0_state_eaten : (Int → Int)) (r : Int) (hf : f_X11_hungry i_p0_rules_seats v_p0_rules_need i_p0_state_days v_p0_state_eaten = some r) : Met l yX11_hungry wsX11_hungry rm_X11_hungry (pcG D G [.ref a_p0] sz [(a_p0, .inr (11, [.ref a_p0_rules, .ref a_p0_state, .ref a_p0_tape, .ref a_p0_reader, .ref a_p0_kitchen, .ref a_p0_luck, .ref a_p0_plans, .ref a_p0_coups, .ref a_p0_past, .ref a_p0_fairDays, .ref a_p0_images, .ref a_p0_imageHeld, .ref a_p0_sheets, .int (Int32.ofInt i_p0_latestFault), .int (Int32.ofInt i_p0_latestTear)])), (a_p0_rules, .inr (6, [.int (Int32.ofInt i_p0_rules_seats), .int (Int32.ofInt i_p0_rules_stirs), .ref a_p0_rules_need, .ref a_p0_rules_kind, .ref a_p0_rules_first, .ref a_p0_rules_second, .ref a_p0_rules_after])), (a_p0_rules_need, .inl (G 1, 7, .inl (zA v_p0_rules_need))), (a_p0_state, .inr (8, [.ref a_p0_state_pieces, .ref a_p0_state_friends, .ref a_p0_state_spoons, .ref a_p0_state_eaten, .ref a_p0_state_seen, .int (Int32.ofInt i_p0_state_seenDays), .int (Int32.ofInt i_p0_state_bone), .int (Int32.ofInt i_p0_state_king), .int (Int32.ofInt i_p0_state_days)])), (a_p0_state_eaten, .inl (G 1, 7, .inl (zA v_p0_state_eaten)))]) (qcI D G (Int32.ofInt r) [(a_p0, .inr (11, [.ref a_p0_rules, .ref a_p0_state, .ref a_p0_tape, .ref a_p0_reader, .ref a_p0_kitchen, .ref a_p0_luck, .ref a_p0_plans, .ref a_p0_coups, .ref a_p0_past, .ref a_p0_fairDays, .ref a_p0_images, .ref a_p0_imageHeld, .ref a_p0_sheets, .int (Int32.ofInt i_p0_latestFault), .int (Int32.ofInt i_p0_latestTear)])), (a_p0_rules, .inr (6, [.int (Int32.ofInt i_p0_rules_seats), .int (Int32.ofInt i_p0_rules_stirs), .ref a_p0_rules_need, .ref a_p0_rules_kind, .ref a_p0_rules_first, .ref a_p0_rules_second, .ref a_p0_rules_after])), (a_p0_rules_need, .inl (G 1, 7, .inl (zA v_p0_rules_need))), (a_p0_state, .inr (8, [.ref a_p0_state_pieces, .ref a_p0_state_friends, .ref a_p0_state_spoons, .ref a_p0_state_eaten, .ref a_p0_state_seen, .int (Int32.ofInt i_p0_state_seenDays), .int (Int32.ofInt i_p0_state_bone), .int (Int32.ofInt i_p0_state_king), .int (Int32.ofInt i_p0_state_days)])), (a_p0_state_eaten, .inl (G 1, 7, .inl (zA v_p0_state_eaten)))] (va_A [(a_p0, .inr (11, [.ref a_p0_rules, .ref a_p0_state, .ref a_p0_tape, .ref a_p0_reader, .ref a_p0_kitchen, .ref a_p0_luck, .ref a_p0_plans, .ref a_p0_coups, .ref a_p0_past, .ref a_p0_fairDays, .ref a_p0_images, .ref a_p0_imageHeld, .ref a_p0_sheets, .int (Int32.ofInt i_p0_latestFault), .int (Int32.ofInt i_p0_latestTear)])), (a_p0_rules, .inr (6, [.int (Int32.ofInt i_p0_rules_seats), .int (Int32.ofInt i_p0_rules_stirs), .ref a_p0_rules_need, .ref a_p0_rules_kind, .ref a_p0_rules_first, .ref a_p0_rules_second, .ref a_p0_rules_after])), (a_p0_rules_need, .inl (G 1, 7, .inl (zA v_p0_rules_need))), (a_p0_state, .inr (8, [.ref a_p0_state_pieces, .ref a_p0_state_friends, .ref a_p0_state_spoons, .ref a_p0_state_eaten, .ref a_p0_state_seen, .int (Int32.ofInt i_p0_state_seenDays), .int (Int32.ofInt i_p0_state_bone), .int (Int32.ofInt i_p0_state_king), .int (Int32.ofInt i_p0_state_days)])), (a_p0_state_eaten, .inl (G 1, 7, .inl (zA v_p0_state_eaten)))] sz)) 0 0 (va_A [(a_p0, .inr (11, [.ref a_p0_rules, .ref a_p0_state, .ref a_p0_tape, .ref a_p0_reader, .ref a_p0_kitchen, .ref a_p0_luck, .ref a_p0_plans, .ref a_p0_coups, .ref a_p0_past, .ref a_p0_fairDays, .ref a_p0_images, .ref a_p0_imageHeld, .ref a_p0_sheets, .int (Int32.ofInt i_p0_latestFault), .int (Int32.ofInt i_p0_latestTear)])), (a_p0_rules, .inr (6, [.int (Int32.ofInt i_p0_rules_seats), .int (Int32.ofInt i_p0_rules_stirs), .ref a_p0_rules_need, .ref a_p0_rules_kind, .ref a_p0_rules_first, .ref a_p0_rules_second, .ref a_p0_rules_after])), (a_p0_rules_need, .inl (G 1, 7, .inl (zA v_p0_rules_need))), (a_p0_state, .inr (8, [.ref a_p0_state_pieces, .ref a_p0_state_friends, .ref a_p0_state_spoons, .ref a_p0_state_eaten, .ref a_p0_state_seen, .int (Int32.ofInt i_p0_state_seenDays), .int (Int32.ofInt i_p0_state_bone), .int (Int32.ofInt i_p0_state_king), .int (Int32.ofInt i_p0_state_days)])), (a_p0_state_eaten, .inl (G 1, 7, .inl (zA v_p0_state_eaten)))] sz) := by
  refine Met.ofW (cc := cX11_hungry) (maxL := 3) (ret := (some .int)) (by decide) rfl ?_
  intro p e s m args below meth c s₁ B hml hv
  obtain ⟨rfl, hsz, hP, hK, hD0⟩ := hv
  have hx := B.exec
  have hb := B.bytes
  have hr := B.returns
  have hts := atoms_spec (ws := wsX11_hungry) B.pre
  have hown : s.vm.findClass RX11 = some m.cls := findClass_of_methodNamed B.named
  have hlocks := B.notSynchronized
  subst hsz
  have hD := hD0.self (sz := s.heap.size)
  generalize hAe : va_A [(a_p0, .inr (11, [.ref a_p0_rules, .ref a_p0_state, .ref a_p0_tape, .ref a_p0_reader, .ref a_p0_kitchen, .ref a_p0_luck, .ref a_p0_plans, .ref a_p0_coups, .ref a_p0_past, .ref a_p0_fairDays, .ref a_p0_images, .ref a_p0_imageHeld, .ref a_p0_sheets, .int (Int32.ofInt i_p0_latestFault), .int (Int32.ofInt i_p0_latestTear)])), (a_p0_rules, .inr (6, [.int (Int32.ofInt i_p0_rules_seats), .int (Int32.ofInt i_p0_rules_stirs), .ref a_p0_rules_need, .ref a_p0_rules_kind, .ref a_p0_rules_first, .ref a_p0_rules_second, .ref a_p0_rules_after])), (a_p0_rules_need, .inl (G 1, 7, .inl (zA v_p0_rules_need))), (a_p0_state, .inr (8, [.ref a_p0_state_pieces, .ref a_p0_state_friends, .ref a_p0_state_spoons, .ref a_p0_state_eaten, .ref a_p0_state_seen, .int (Int32.ofInt i_p0_state_seenDays), .int (Int32.ofInt i_p0_state_bone), .int (Int32.ofInt i_p0_state_king), .int (Int32.ofInt i_p0_state_days)])), (a_p0_state_eaten, .inl (G 1, 7, .inl (zA v_p0_state_eaten)))] s.heap.size = A at hD ⊢
  have hA : ∀ q : Nat, s.heap.size ≤ q → A q := fun q h => by rw [← hAe]; exact Or.inr h
  clear hAe hD0
  have hS : va_S A s.heap s.heap [] := va_S.rf
  have hl := lv_entry ([.ref a_p0]) (n := 3) (Nat.le_of_ble_eq_true rfl)
  rw [lg_entry_eq]
  generalize (lg_sl ([.ref a_p0]) ++ List.replicate (3 - (lg_sl ([.ref a_p0])).length) Slot.unset).toArray = ls at hl ⊢
  have hl : lv_has ls 3 [(0, .ref a_p0)] := hl
  refine W_nameQ (fun Q hQ => ?_)
  obtain ⟨H, hH⟩ : ∃ H, H = s.heap := ⟨_, rfl⟩
  replace hS : va_S A s.heap H [] := by rw [hH]; exact hS
  replace hP : va_P D vwCl [(a_p0, .inr (11, [.ref a_p0_rules, .ref a_p0_state, .ref a_p0_tape, .ref a_p0_reader, .ref a_p0_kitchen, .ref a_p0_luck, .ref a_p0_plans, .ref a_p0_coups, .ref a_p0_past, .ref a_p0_fairDays, .ref a_p0_images, .ref a_p0_imageHeld, .ref a_p0_sheets, .int (Int32.ofInt i_p0_latestFault), .int (Int32.ofInt i_p0_latestTear)])), (a_p0_rules, .inr (6, [.int (Int32.ofInt i_p0_rules_seats), .int (Int32.ofInt i_p0_rules_stirs), .ref a_p0_rules_need, .ref a_p0_rules_kind, .ref a_p0_rules_first, .ref a_p0_rules_second, .ref a_p0_rules_after])), (a_p0_rules_need, .inl (G 1, 7, .inl (zA v_p0_rules_need))), (a_p0_state, .inr (8, [.ref a_p0_state_pieces, .ref a_p0_state_friends, .ref a_p0_state_spoons, .ref a_p0_state_eaten, .ref a_p0_state_seen, .int (Int32.ofInt i_p0_state_seenDays), .int (Int32.ofInt i_p0_state_bone), .int (Int32.ofInt i_p0_state_king), .int (Int32.ofInt i_p0_state_days)])), (a_p0_state_eaten, .inl (G 1, 7, .inl (zA v_p0_state_eaten)))] H := by rw [hH]; exact hP
  rw [← hH]
  clear hH
  unfold f_X11_hungry at hf
  refine lv_iconst (v := Int32.ofInt (0 : Int)) hx hb dX11_hungry_0 (by decide) ?_
  refine z_topi (fun z1 ez => ?_)
  replace hf := bnd_s hf ez
  clear ez
  refine lv_istore_n (lv' := [(1, .int (Int32.ofInt z1)), (0, .ref a_p0)]) hx hb dX11_hungry_1 rfl hl (by decide) rfl (fun ls hl => ?_)
  refine lv_iconst (v := Int32.ofInt (0 : Int)) hx hb dX11_hungry_2 (by decide) ?_
  refine z_topi (fun z2 ez => ?_)
  replace hf := bnd_s hf ez
  clear ez
  refine lv_istore_n (lv' := [(2, .int (Int32.ofInt z2)), (1, .int (Int32.ofInt z1)), (0, .ref a_p0)]) hx hb dX11_hungry_3 rfl hl (by decide) rfl (fun ls hl => ?_)
  have hq := lq2_i hf
  clear hf
  obtain ⟨B5, eB5, NB5, hf⟩ := hq
  have hB5 : ∀ (n : Nat) (z3 : Int) (z4 : Int) (ls : Array Slot) (H : Heap) (locs : List Loc), lv_has ls 3 [(2, .int (Int32.ofInt z3)), (1, .int (Int32.ofInt z4)), (0, .ref a_p0)] → va_P D vwCl [(a_p0, .inr (11, [.ref a_p0_rules, .ref a_p0_state, .ref a_p0_tape, .ref a_p0_reader, .ref a_p0_kitchen, .ref a_p0_luck, .ref a_p0_plans, .ref a_p0_coups, .ref a_p0_past, .ref a_p0_fairDays, .ref a_p0_images, .ref a_p0_imageHeld, .ref a_p0_sheets, .int (Int32.ofInt i_p0_latestFault), .int (Int32.ofInt i_p0_latestTear)])), (a_p0_rules, .inr (6, [.int (Int32.ofInt i_p0_rules_seats), .int (Int32.ofInt i_p0_rules_stirs), .ref a_p0_rules_need, .ref a_p0_rules_kind, .ref a_p0_rules_first, .ref a_p0_rules_second, .ref a_p0_rules_after])), (a_p0_rules_need, .inl (G 1, 7, .inl (zA v_p0_rules_need))), (a_p0_state, .inr (8, [.ref a_p0_state_pieces, .ref a_p0_state_friends, .ref a_p0_state_spoons, .ref a_p0_state_eaten, .ref a_p0_state_seen, .int (Int32.ofInt i_p0_state_seenDays), .int (Int32.ofInt i_p0_state_bone), .int (Int32.ofInt i_p0_state_king), .int (Int32.ofInt i_p0_state_days)])), (a_p0_state_eaten, .inl (G 1, 7, .inl (zA v_p0_state_eaten)))] H → va_D A [(a_p0, .inr (11, [.ref a_p0_rules, .ref a_p0_state, .ref a_p0_tape, .ref a_p0_reader, .ref a_p0_kitchen, .ref a_p0_luck, .ref a_p0_plans, .ref a_p0_coups, .ref a_p0_past, .ref a_p0_fairDays, .ref a_p0_images, .ref a_p0_imageHeld, .ref a_p0_sheets, .int (Int32.ofInt i_p0_latestFault), .int (Int32.ofInt i_p0_latestTear)])), (a_p0_rules, .inr (6, [.int (Int32.ofInt i_p0_rules_seats), .int (Int32.ofInt i_p0_rules_stirs), .ref a_p0_rules_need, .ref a_p0_rules_kind, .ref a_p0_rules_first, .ref a_p0_rules_second, .ref a_p0_rules_after])), (a_p0_rules_need, .inl (G 1, 7, .inl (zA v_p0_rules_need))), (a_p0_state, .inr (8, [.ref a_p0_state_pieces, .ref a_p0_state_friends, .ref a_p0_state_spoons, .ref a_p0_state_eaten, .ref a_p0_state_seen, .int (Int32.ofInt i_p0_state_seenDays), .int (Int32.ofInt i_p0_state_bone), .int (Int32.ofInt i_p0_state_king), .int (Int32.ofInt i_p0_state_days)])), (a_p0_state_eaten, .inl (G 1, 7, .inl (zA v_p0_state_eaten)))] → va_S A s.heap H locs → lq2 B5 n z3 z4 = some r → W p l e rm_X11_hungry s m ([.ref a_p0] : List Value).toArray below meth c H locs 0 0 Q (F0 m 4 ls []) := by
    clear hf hl hP hD hS
    intro n
    induction n with
    | zero =>
      intro z3 z4 ls H locs hl hP hD hS hf
      exact (lq2_0 hf).elim
    | succ n ih4 =>
      intro z3 z4 ls H locs hl hP hD hS hf
      replace hf := lq2_s eB5 hf
      unfold B_X11_hungry_4 at hf
      refine lv_iload_n hx hb dX11_hungry_4 rfl (lv_at hl 0 rfl) ?_
      refine lv_aload_n hx hb dX11_hungry_5 rfl (lv_at hl 2 rfl) ?_
      refine va_get (D := D) (ci := 11) (v := .ref a_p0_rules) (C := RX11) (T := TX11) (N := 15) hx hb hts inX11_hungry_X11 hown hK hP 0 rfl rfl 0 (by decide) (hts _ mwX11_hungry_1) (fun _ h9 => h9) rfl dX11_hungry_6 ?_
      refine va_get (D := D) (ci := 6) (v := .int (Int32.ofInt i_p0_rules_seats)) (C := RX6) (T := TX6) (N := 7) hx hb hts inX11_hungry_X6 hown hK hP 1 rfl rfl 0 (by decide) (hts _ mwX11_hungry_3) (fun _ h9 => h9) rfl dX11_hungry_9 ?_
      have hr5 := ck_c hf
      replace hf := ck_r hf
      have hr6 := ck_c hf
      replace hf := ck_r hf
      refine lv_icmp_ge (tgt := 56) hx hb dX11_hungry_12 (by decide) (fun cc => ?_) (fun cc => ?_)
      ·
        replace hf := ite_t ((z_le hr6 hr5).mp cc) hf
        clear cc
        refine lv_iload_n hx hb dX11_hungry_56 rfl (lv_at hl 1 rfl) ?_
        obtain rfl := ou1 hf
        rw [hQ]
        exact W.iret hx hb hr (fun t ht hW => ⟨⟨_, (), rfl, rfl, by rw [ht]; exact hP, va_K.moved hW.alike hK, hD⟩, hS.F ht⟩) hS.2.2 dX11_hungry_57
      ·
        replace hf := ite_f (fun h9 => cc ((z_le hr6 hr5).mpr h9)) hf
        clear cc
        refine lv_aload_n hx hb dX11_hungry_15 rfl (lv_at hl 2 rfl) ?_
        refine va_get (D := D) (ci := 11) (v := .ref a_p0_state) (C := RX11) (T := TX11) (N := 15) hx hb hts inX11_hungry_X11 hown hK hP 0 rfl rfl 1 (by decide) (hts _ mwX11_hungry_4) (fun _ h9 => h9) rfl dX11_hungry_16 ?_
        refine va_get (D := D) (ci := 8) (v := .ref a_p0_state_eaten) (C := RX8) (T := TX8) (N := 9) hx hb hts inX11_hungry_X8 hown hK hP 3 rfl rfl 3 (by decide) (hts _ mwX11_hungry_6) (fun _ h9 => h9) rfl dX11_hungry_19 ?_
        refine lv_iload_n hx hb dX11_hungry_22 rfl (lv_at hl 0 rfl) ?_
        have hc := ck_c hf
        replace hf := ck_r hf
        refine va_iald hx hb hK hP 4 1 rfl rfl (z_ix_in hc) dX11_hungry_23 (z_ci (z_ald v_p0_state_eaten hc) ?_)
        clear hc
        refine lv_aload_n hx hb dX11_hungry_24 rfl (lv_at hl 2 rfl) ?_
        refine va_get (D := D) (ci := 11) (v := .ref a_p0_rules) (C := RX11) (T := TX11) (N := 15) hx hb hts inX11_hungry_X11 hown hK hP 0 rfl rfl 0 (by decide) (hts _ mwX11_hungry_1) (fun _ h9 => h9) rfl dX11_hungry_25 ?_
        refine va_get (D := D) (ci := 6) (v := .ref a_p0_rules_need) (C := RX6) (T := TX6) (N := 7) hx hb hts inX11_hungry_X6 hown hK hP 1 rfl rfl 2 (by decide) (hts _ mwX11_hungry_7) (fun _ h9 => h9) rfl dX11_hungry_28 ?_
        refine lv_iload_n hx hb dX11_hungry_31 rfl (lv_at hl 0 rfl) ?_
        have hc := ck_c hf
        replace hf := ck_r hf
        refine va_iald hx hb hK hP 2 1 rfl rfl (z_ix_in hc) dX11_hungry_32 (z_ci (z_ald v_p0_rules_need hc) ?_)
        clear hc
        refine lv_aload_n hx hb dX11_hungry_33 rfl (lv_at hl 2 rfl) ?_
        refine va_get (D := D) (ci := 11) (v := .ref a_p0_state) (C := RX11) (T := TX11) (N := 15) hx hb hts inX11_hungry_X11 hown hK hP 0 rfl rfl 1 (by decide) (hts _ mwX11_hungry_4) (fun _ h9 => h9) rfl dX11_hungry_34 ?_
        refine va_get (D := D) (ci := 8) (v := .int (Int32.ofInt i_p0_state_days)) (C := RX8) (T := TX8) (N := 9) hx hb hts inX11_hungry_X8 hown hK hP 3 rfl rfl 8 (by decide) (hts _ mwX11_hungry_8) (fun _ h9 => h9) rfl dX11_hungry_37 ?_
        refine lv_imul hx hb dX11_hungry_40 (z_ci (Int32.ofInt_mul (v_p0_rules_need z3) i_p0_state_days) ?_)
        have hr7 := ck_c hf
        replace hf := ck_r hf
        have hr8 := ck_c hf
        replace hf := ck_r hf
        refine lv_icmp_ge (tgt := 50) hx hb dX11_hungry_41 (by decide) (fun cc => ?_) (fun cc => ?_)
        ·
          replace hf := ite_t ((z_le hr8 hr7).mp cc) hf
          clear cc
          obtain ⟨z10, ez⟩ : ∃ y : Int, y = (z3 + (1 : Int)) := ⟨_, rfl⟩
          replace hf := bnd_s hf ez
          refine lv_iinc (v := Int32.ofInt z10) (lv' := [(2, .int (Int32.ofInt z10)), (1, .int (Int32.ofInt z4)), (0, .ref a_p0)]) hx hb dX11_hungry_50 hl (k := 0) rfl (by rw [ez]; exact (Int32.ofInt_add _ _).symm) (by decide) rfl (fun ls hl => ?_)
          clear ez
          refine lv_goto (tgt := 4) hx hb dX11_hungry_53 (by decide) ?_
          exact ih4 _ _ _ _ _ (lv_sub hl [0, 1, 2] rfl) hP hD hS hf
        ·
          replace hf := ite_f (fun h9 => cc ((z_le hr8 hr7).mpr h9)) hf
          clear cc
          refine lv_iload_n hx hb dX11_hungry_44 rfl (lv_at hl 1 rfl) ?_
          refine lv_iconst (v := Int32.ofInt (1 : Int)) hx hb dX11_hungry_45 (by decide) ?_
          refine lv_iload_n hx hb dX11_hungry_46 rfl (lv_at hl 0 rfl) ?_
          refine lv_ishl hx hb dX11_hungry_47 (z_ci (z_shl_e (1 : Int) z3) ?_)
          refine lv_ior hx hb dX11_hungry_48 (z_ci (z_or_e z4 (z_shl (1 : Int) z3)) ?_)
          refine z_topi (fun z11 ez => ?_)
          replace hf := bnd_s hf ez
          clear ez
          refine lv_istore_n (lv' := [(1, .int (Int32.ofInt z11)), (2, .int (Int32.ofInt z3)), (0, .ref a_p0)]) hx hb dX11_hungry_49 rfl hl (by decide) rfl (fun ls hl => ?_)
          obtain ⟨z12, ez⟩ : ∃ y : Int, y = (z3 + (1 : Int)) := ⟨_, rfl⟩
          replace hf := bnd_s hf ez
          refine lv_iinc (v := Int32.ofInt z12) (lv' := [(2, .int (Int32.ofInt z12)), (1, .int (Int32.ofInt z11)), (0, .ref a_p0)]) hx hb dX11_hungry_50 hl (k := 1) rfl (by rw [ez]; exact (Int32.ofInt_add _ _).symm) (by decide) rfl (fun ls hl => ?_)
          clear ez
          refine lv_goto (tgt := 4) hx hb dX11_hungry_53 (by decide) ?_
          exact ih4 _ _ _ _ _ (lv_sub hl [0, 1, 2] rfl) hP hD hS hf
  exact hB5 _ _ _ _ _ _ (lv_sub hl [0, 1, 2] rfl) hP hD hS hf

noncomputable def f_X11_isPart (x0 : Int) : Option (Int) := (ck (z_r32 x0) (if x0 = (0 : Int) then (some (1 : Int)) else (if x0 = (1 : Int) then (some (1 : Int)) else (some (0 : Int)))))
abbrev rm_X11_isPart : Room := { frames := 0, cells := 0, slots := 0, locals := 0 }
set_option maxHeartbeats 8000000 in
set_option maxRecDepth 100000 in
theorem c_X11_isPart (l : Launch) (D : va_G) (G : Nat → ClassId) (sz : Nat) (x0 : Int) (r : Int) (hf : f_X11_isPart x0 = some r) : Met l yX11_isPart wsX11_isPart rm_X11_isPart (pcG D G [.int (Int32.ofInt x0)] sz []) (qcI D G (Int32.ofInt r) [] (va_A [] sz)) 0 0 (va_A [] sz) := by
  refine Met.ofW (cc := cX11_isPart) (maxL := 1) (ret := (some .boolean)) (by decide) rfl ?_
  intro p e s m args below meth c s₁ B hml hv
  obtain ⟨rfl, hsz, hP, hK, hD0⟩ := hv
  have hx := B.exec
  have hb := B.bytes
  have hr := B.returns
  have hts := atoms_spec (ws := wsX11_isPart) B.pre
  have hown : s.vm.findClass RX11 = some m.cls := findClass_of_methodNamed B.named
  have hlocks := B.notSynchronized
  subst hsz
  have hD := hD0.self (sz := s.heap.size)
  generalize hAe : va_A [] s.heap.size = A at hD ⊢
  have hA : ∀ q : Nat, s.heap.size ≤ q → A q := fun q h => by rw [← hAe]; exact Or.inr h
  clear hAe hD0
  have hS : va_S A s.heap s.heap [] := va_S.rf
  have hl := lv_entry ([.int (Int32.ofInt x0)]) (n := 1) (Nat.le_of_ble_eq_true rfl)
  rw [lg_entry_eq]
  generalize (lg_sl ([.int (Int32.ofInt x0)]) ++ List.replicate (1 - (lg_sl ([.int (Int32.ofInt x0)])).length) Slot.unset).toArray = ls at hl ⊢
  have hl : lv_has ls 1 [(0, .int (Int32.ofInt x0))] := hl
  refine W_nameQ (fun Q hQ => ?_)
  obtain ⟨H, hH⟩ : ∃ H, H = s.heap := ⟨_, rfl⟩
  replace hS : va_S A s.heap H [] := by rw [hH]; exact hS
  replace hP : va_P D vwCl [] H := by rw [hH]; exact hP
  rw [← hH]
  clear hH
  unfold f_X11_isPart at hf
  refine lv_iload_n hx hb dX11_isPart_0 rfl (lv_at hl 0 rfl) ?_
  have hr0 := ck_c hf
  replace hf := ck_r hf
  refine lv_if_eq (tgt := 9) hx hb dX11_isPart_1 (by decide) (fun cc => ?_) (fun cc => ?_)
  ·
    replace hf := ite_t ((z_eq0 hr0).mp cc) hf
    clear cc
    refine lv_iconst (v := Int32.ofInt (1 : Int)) hx hb dX11_isPart_9 (by decide) ?_
    refine lv_goto (tgt := 14) hx hb dX11_isPart_10 (by decide) ?_
    obtain rfl := ou1 hf
    rw [hQ]
    exact W.zret hx hb hr rfl (fun t ht hW => ⟨⟨_, (), rfl, rfl, by rw [ht]; exact hP, va_K.moved hW.alike hK, hD⟩, hS.F ht⟩) hS.2.2 dX11_isPart_14
  ·
    replace hf := ite_f (fun h9 => cc ((z_eq0 hr0).mpr h9)) hf
    clear cc
    refine lv_iload_n hx hb dX11_isPart_4 rfl (lv_at hl 0 rfl) ?_
    refine lv_iconst (v := Int32.ofInt (1 : Int)) hx hb dX11_isPart_5 (by decide) ?_
    refine lv_icmp_ne (tgt := 13) hx hb dX11_isPart_6 (by decide) (fun cc => ?_) (fun cc => ?_)
    ·
      replace hf := ite_f (fun h9 => cc ((z_eq hr0 (by decide)).mpr h9)) hf
      clear cc
      refine lv_iconst (v := Int32.ofInt (0 : Int)) hx hb dX11_isPart_13 (by decide) ?_
      obtain rfl := ou1 hf
      rw [hQ]
      exact W.zret hx hb hr rfl (fun t ht hW => ⟨⟨_, (), rfl, rfl, by rw [ht]; exact hP, va_K.moved hW.alike hK, hD⟩, hS.F ht⟩) hS.2.2 dX11_isPart_14
    ·
      replace hf := ite_t ((z_eq hr0 (by decide)).mp cc) hf
      clear cc
      refine lv_iconst (v := Int32.ofInt (1 : Int)) hx hb dX11_isPart_9 (by decide) ?_
      refine lv_goto (tgt := 14) hx hb dX11_isPart_10 (by decide) ?_
      obtain rfl := ou1 hf
      rw [hQ]
      exact W.zret hx hb hr rfl (fun t ht hW => ⟨⟨_, (), rfl, rfl, by rw [ht]; exact hP, va_K.moved hW.alike hK, hD⟩, hS.F ht⟩) hS.2.2 dX11_isPart_14

noncomputable def f_X11_chance (i_p0_rules_seats : Int) (i_p0_rules_stirs : Int) (v_p0_rules_after : (Int → Int)) (i_p0_state_bone : Int) (i_p0_state_king : Int) (v_p0_state_friends : (Int → Int)) (v_p0_kitchen_places : (Int → Int)) (v_p0_kitchen_holders : (Int → Int)) (v_p0_luck_rows : (Int → Int)) (v_p0_luck_later : (Int → Int)) (x1 : Int) (x2 : Int) (x3 : Int) : Option (Int × (Int → Int) × (Int → Int) × (Int → Int) × (Int → Int)) := (bd1 (f_X6_hasSeat i_p0_rules_seats x1) (fun (z1 : Int) => (ck (z_r32 z1) (if z1 = (0 : Int) then (some ((-1 : Int), v_p0_kitchen_places, v_p0_kitchen_holders, v_p0_luck_rows, v_p0_luck_later)) else (ck (z_r32 x2) (if x2 < (0 : Int) then (some ((-1 : Int), v_p0_kitchen_places, v_p0_kitchen_holders, v_p0_luck_rows, v_p0_luck_later)) else (if (10 : Int) < x2 then (some ((-1 : Int), v_p0_kitchen_places, v_p0_kitchen_holders, v_p0_luck_rows, v_p0_luck_later)) else (bd1 (f_X11_isPart x3) (fun (z4 : Int) => (ck (z_r32 z4) (if z4 = (0 : Int) then (some ((-1 : Int), v_p0_kitchen_places, v_p0_kitchen_holders, v_p0_luck_rows, v_p0_luck_later)) else (ck (z_r32 i_p0_rules_stirs) (if i_p0_rules_stirs = (0 : Int) then (some ((-2 : Int), v_p0_kitchen_places, v_p0_kitchen_holders, v_p0_luck_rows, v_p0_luck_later)) else (bd5 (f_X3_rowsToCrown i_p0_rules_seats i_p0_rules_stirs v_p0_rules_after i_p0_state_bone i_p0_state_king v_p0_state_friends v_p0_kitchen_places v_p0_kitchen_holders v_p0_luck_rows v_p0_luck_later x1 x2) (fun (z7 : Int) (w8 : (Int → Int)) (w9 : (Int → Int)) (w10 : (Int → Int)) (w11 : (Int → Int)) => (bd1 (f_X3_power i_p0_rules_stirs x2) (fun (z12 : Int) => (bd1 (f_X3_part z7 z12 x3) (fun (z13 : Int) => (some (z13, w8, w9, w10, w11)))))))))))))))))))))
abbrev rm_X11_chance : Room := { frames := 5, cells := 0, slots := 0, locals := 113 }
theorem inX11_chance_X11 : ∀ w ∈ wsX110, w ∈ wsX11_chance := by first | exact fun w h => List.mem_cons_of_mem _ (List.mem_append_left _ (List.mem_append_left _ (List.mem_append_left _ (List.mem_append_left _ (List.mem_append_right _ h))))) | decide +kernel
theorem mwX11_chance_1 : Cond.fieldLink RX11 10 "LadleKings" "rules" "LLadleKings$Rules;" ∈ wsX11_chance := by first | exact List.mem_of_getElem? (i := 1) rfl | decide +kernel
theorem mwX11_chance_2 : Cond.constantLong RX11 202 (-1) ∈ wsX11_chance := by first | exact List.mem_of_getElem? (i := 2) rfl | decide +kernel
theorem inX11_chance_X6 : ∀ w ∈ wsX60, w ∈ wsX11_chance := by first | exact fun w h => List.mem_cons_of_mem _ (List.mem_append_left _ (List.mem_append_left _ (List.mem_append_left _ (List.mem_append_right _ h)))) | decide +kernel
theorem mwX11_chance_4 : Cond.fieldLink RX11 133 "LadleKings$Rules" "stirs" "I" ∈ wsX11_chance := by first | exact List.mem_of_getElem? (i := 3) rfl | decide +kernel
theorem mwX11_chance_5 : Cond.fieldLink RX11 53 "LadleKings" "luck" "LLadleKings$Luck;" ∈ wsX11_chance := by first | exact List.mem_of_getElem? (i := 5) rfl | decide +kernel
theorem hdV_yX3_rowsToCrown_RX3 : yX3_rowsToCrown.cls = RX3 ∧ yX3_rowsToCrown.cls ≠ "java/lang/invoke/MethodHandle" ∧ yX3_rowsToCrown.cls ≠ "java/lang/invoke/VarHandle" ∧ (parseMethodDescriptor yX3_rowsToCrown.desc).map (fun d => d.parameters.length) = some 2 := by decide +kernel
theorem mwX11_chance_7 : Cond.constantLong RX11 204 (-2) ∈ wsX11_chance := by first | exact List.mem_of_getElem? (i := 4) rfl | decide +kernel
set_option maxHeartbeats 8000000 in
set_option maxRecDepth 100000 in
theorem c_X11_chance (l : Launch) (D : va_G) (G : Nat → ClassId) (sz : Nat) (a_p0 : Nat) (a_p0_rules : Nat) (a_p0_state : Nat) (a_p0_tape : Nat) (a_p0_reader : Nat) (a_p0_kitchen : Nat) (a_p0_luck : Nat) (a_p0_plans : Nat) (a_p0_coups : Nat) (a_p0_past : Nat) (a_p0_fairDays : Nat) (a_p0_images : Nat) (a_p0_imageHeld : Nat) (a_p0_sheets : Nat) (a_p0_rules_need : Nat) (a_p0_rules_kind : Nat) (a_p0_rules_first : Nat) (a_p0_rules_second : Nat) (a_p0_rules_after : Nat) (a_p0_state_pieces : Nat) (a_p0_state_friends : Nat) (a_p0_state_spoons : Nat) (a_p0_state_eaten : Nat) (a_p0_state_seen : Nat) (a_p0_kitchen_places : Nat) (a_p0_kitchen_holders : Nat) (a_p0_kitchen_stirred : Nat) (a_p0_luck_rows : Nat) (a_p0_luck_later : Nat) (a_p0_luck_finds : Nat) (i_p0_latestFault : Int) (i_p0_latestTear : Int) (i_p0_rules_seats : Int) (i_p0_rules_stirs : Int) (v_p0_rules_after : (Int → Int)) (i_p0_state_seenDays : Int) (i_p0_state_bone : Int) (i_p0_state_king : Int) (i_p0_state_days : Int) (v_p0_state_friends : (Int → Int)) (v_p0_kitchen_places : (Int → Int)) (v_p0_kitchen_holders : (Int → Int)) (v_p0_luck_rows : (Int → Int)) (v_p0_luck_later : (Int → Int)) (x1 : Int) (x2 : Int) (x3 : Int) (r : Int) (o_v_p0_kitchen_places : (Int → Int)) (o_v_p0_kitchen_holders : (Int → Int)) (o_v_p0_luck_rows : (Int → Int)) (o_v_p0_luck_later : (Int → Int)) (hf : f_X11_chance i_p0_rules_seats i_p0_rules_stirs v_p0_rules_after i_p0_state_bone i_p0_state_king v_p0_state_friends v_p0_kitchen_places v_p0_kitchen_holders v_p0_luck_rows v_p0_luck_later x1 x2 x3 = some (r, o_v_p0_kitchen_places, o_v_p0_kitchen_holders, o_v_p0_luck_rows, o_v_p0_luck_later)) : Met l yX11_chance wsX11_chance rm_X11_chance (pcG D G [.ref a_p0, .int (Int32.ofInt x1), .int (Int32.ofInt x2), .int (Int32.ofInt x3)] sz [(a_p0, .inr (11, [.ref a_p0_rules, .ref a_p0_state, .ref a_p0_tape, .ref a_p0_reader, .ref a_p0_kitchen, .ref a_p0_luck, .ref a_p0_plans, .ref a_p0_coups, .ref a_p0_past, .ref a_p0_fairDays, .ref a_p0_images, .ref a_p0_imageHeld, .ref a_p0_sheets, .int (Int32.ofInt i_p0_latestFault), .int (Int32.ofInt i_p0_latestTear)])), (a_p0_rules, .inr (6, [.int (Int32.ofInt i_p0_rules_seats), .int (Int32.ofInt i_p0_rules_stirs), .ref a_p0_rules_need, .ref a_p0_rules_kind, .ref a_p0_rules_first, .ref a_p0_rules_second, .ref a_p0_rules_after])), (a_p0_rules_after, .inl (G 1, 35, .inl (zA v_p0_rules_after))), (a_p0_state, .inr (8, [.ref a_p0_state_pieces, .ref a_p0_state_friends, .ref a_p0_state_spoons, .ref a_p0_state_eaten, .ref a_p0_state_seen, .int (Int32.ofInt i_p0_state_seenDays), .int (Int32.ofInt i_p0_state_bone), .int (Int32.ofInt i_p0_state_king), .int (Int32.ofInt i_p0_state_days)])), (a_p0_state_friends, .inl (G 1, 7, .inl (zA v_p0_state_friends))), (a_p0_kitchen, .inr (2, [.ref a_p0_rules, .ref a_p0_state, .ref a_p0_kitchen_places, .ref a_p0_kitchen_holders, .ref a_p0_kitchen_stirred])), (a_p0_kitchen_places, .inl (G 1, 49, .inl (zA v_p0_kitchen_places))), (a_p0_kitchen_holders, .inl (G 1, 49, .inl (zA v_p0_kitchen_holders))), (a_p0_luck, .inr (3, [.ref a_p0_kitchen, .ref a_p0_luck_rows, .ref a_p0_luck_later, .ref a_p0_luck_finds])), (a_p0_luck_rows, .inl (G 2, 49, .inr (.inl (zL v_p0_luck_rows)))), (a_p0_luck_later, .inl (G 2, 49, .inr (.inl (zL v_p0_luck_later))))]) (qcL D G (Int64.ofInt r) [(a_p0, .inr (11, [.ref a_p0_rules, .ref a_p0_state, .ref a_p0_tape, .ref a_p0_reader, .ref a_p0_kitchen, .ref a_p0_luck, .ref a_p0_plans, .ref a_p0_coups, .ref a_p0_past, .ref a_p0_fairDays, .ref a_p0_images, .ref a_p0_imageHeld, .ref a_p0_sheets, .int (Int32.ofInt i_p0_latestFault), .int (Int32.ofInt i_p0_latestTear)])), (a_p0_rules, .inr (6, [.int (Int32.ofInt i_p0_rules_seats), .int (Int32.ofInt i_p0_rules_stirs), .ref a_p0_rules_need, .ref a_p0_rules_kind, .ref a_p0_rules_first, .ref a_p0_rules_second, .ref a_p0_rules_after])), (a_p0_rules_after, .inl (G 1, 35, .inl (zA v_p0_rules_after))), (a_p0_state, .inr (8, [.ref a_p0_state_pieces, .ref a_p0_state_friends, .ref a_p0_state_spoons, .ref a_p0_state_eaten, .ref a_p0_state_seen, .int (Int32.ofInt i_p0_state_seenDays), .int (Int32.ofInt i_p0_state_bone), .int (Int32.ofInt i_p0_state_king), .int (Int32.ofInt i_p0_state_days)])), (a_p0_state_friends, .inl (G 1, 7, .inl (zA v_p0_state_friends))), (a_p0_kitchen, .inr (2, [.ref a_p0_rules, .ref a_p0_state, .ref a_p0_kitchen_places, .ref a_p0_kitchen_holders, .ref a_p0_kitchen_stirred])), (a_p0_kitchen_places, .inl (G 1, 49, .inl (zA o_v_p0_kitchen_places))), (a_p0_kitchen_holders, .inl (G 1, 49, .inl (zA o_v_p0_kitchen_holders))), (a_p0_luck, .inr (3, [.ref a_p0_kitchen, .ref a_p0_luck_rows, .ref a_p0_luck_later, .ref a_p0_luck_finds])), (a_p0_luck_rows, .inl (G 2, 49, .inr (.inl (zL o_v_p0_luck_rows)))), (a_p0_luck_later, .inl (G 2, 49, .inr (.inl (zL o_v_p0_luck_later))))] (va_A [(a_p0, .inr (11, [.ref a_p0_rules, .ref a_p0_state, .ref a_p0_tape, .ref a_p0_reader, .ref a_p0_kitchen, .ref a_p0_luck, .ref a_p0_plans, .ref a_p0_coups, .ref a_p0_past, .ref a_p0_fairDays, .ref a_p0_images, .ref a_p0_imageHeld, .ref a_p0_sheets, .int (Int32.ofInt i_p0_latestFault), .int (Int32.ofInt i_p0_latestTear)])), (a_p0_rules, .inr (6, [.int (Int32.ofInt i_p0_rules_seats), .int (Int32.ofInt i_p0_rules_stirs), .ref a_p0_rules_need, .ref a_p0_rules_kind, .ref a_p0_rules_first, .ref a_p0_rules_second, .ref a_p0_rules_after])), (a_p0_rules_after, .inl (G 1, 35, .inl (zA v_p0_rules_after))), (a_p0_state, .inr (8, [.ref a_p0_state_pieces, .ref a_p0_state_friends, .ref a_p0_state_spoons, .ref a_p0_state_eaten, .ref a_p0_state_seen, .int (Int32.ofInt i_p0_state_seenDays), .int (Int32.ofInt i_p0_state_bone), .int (Int32.ofInt i_p0_state_king), .int (Int32.ofInt i_p0_state_days)])), (a_p0_state_friends, .inl (G 1, 7, .inl (zA v_p0_state_friends))), (a_p0_kitchen, .inr (2, [.ref a_p0_rules, .ref a_p0_state, .ref a_p0_kitchen_places, .ref a_p0_kitchen_holders, .ref a_p0_kitchen_stirred])), (a_p0_kitchen_places, .inl (G 1, 49, .inl (zA v_p0_kitchen_places))), (a_p0_kitchen_holders, .inl (G 1, 49, .inl (zA v_p0_kitchen_holders))), (a_p0_luck, .inr (3, [.ref a_p0_kitchen, .ref a_p0_luck_rows, .ref a_p0_luck_later, .ref a_p0_luck_finds])), (a_p0_luck_rows, .inl (G 2, 49, .inr (.inl (zL v_p0_luck_rows)))), (a_p0_luck_later, .inl (G 2, 49, .inr (.inl (zL v_p0_luck_later))))] sz)) 0 0 (va_A [(a_p0, .inr (11, [.ref a_p0_rules, .ref a_p0_state, .ref a_p0_tape, .ref a_p0_reader, .ref a_p0_kitchen, .ref a_p0_luck, .ref a_p0_plans, .ref a_p0_coups, .ref a_p0_past, .ref a_p0_fairDays, .ref a_p0_images, .ref a_p0_imageHeld, .ref a_p0_sheets, .int (Int32.ofInt i_p0_latestFault), .int (Int32.ofInt i_p0_latestTear)])), (a_p0_rules, .inr (6, [.int (Int32.ofInt i_p0_rules_seats), .int (Int32.ofInt i_p0_rules_stirs), .ref a_p0_rules_need, .ref a_p0_rules_kind, .ref a_p0_rules_first, .ref a_p0_rules_second, .ref a_p0_rules_after])), (a_p0_rules_after, .inl (G 1, 35, .inl (zA v_p0_rules_after))), (a_p0_state, .inr (8, [.ref a_p0_state_pieces, .ref a_p0_state_friends, .ref a_p0_state_spoons, .ref a_p0_state_eaten, .ref a_p0_state_seen, .int (Int32.ofInt i_p0_state_seenDays), .int (Int32.ofInt i_p0_state_bone), .int (Int32.ofInt i_p0_state_king), .int (Int32.ofInt i_p0_state_days)])), (a_p0_state_friends, .inl (G 1, 7, .inl (zA v_p0_state_friends))), (a_p0_kitchen, .inr (2, [.ref a_p0_rules, .ref a_p0_state, .ref a_p0_kitchen_places, .ref a_p0_kitchen_holders, .ref a_p0_kitchen_stirred])), (a_p0_kitchen_places, .inl (G 1, 49, .inl (zA v_p0_kitchen_places))), (a_p0_kitchen_holders, .inl (G 1, 49, .inl (zA v_p0_kitchen_holders))), (a_p0_luck, .inr (3, [.ref a_p0_kitchen, .ref a_p0_luck_rows, .ref a_p0_luck_later, .ref a_p0_luck_finds])), (a_p0_luck_rows, .inl (G 2, 49, .inr (.inl (zL v_p0_luck_rows)))), (a_p0_luck_later, .inl (G 2, 49, .inr (.inl (zL v_p0_luck_later))))] sz) := by
  refine Met.ofW (cc := cX11_chance) (maxL := 4) (ret := (some .long)) (by decide) rfl ?_
  intro p e s m args below meth c s₁ B hml hv
  obtain ⟨rfl, hsz, hP, hK, hD0⟩ := hv
  have hx := B.exec
  have hb := B.bytes
  have hr := B.returns
  have hts := atoms_spec (ws := wsX11_chance) B.pre
  have hown : s.vm.findClass RX11 = some m.cls := findClass_of_methodNamed B.named
  have hlocks := B.notSynchronized
  subst hsz
  have hD := hD0.self (sz := s.heap.size)
  generalize hAe : va_A [(a_p0, .inr (11, [.ref a_p0_rules, .ref a_p0_state, .ref a_p0_tape, .ref a_p0_reader, .ref a_p0_kitchen, .ref a_p0_luck, .ref a_p0_plans, .ref a_p0_coups, .ref a_p0_past, .ref a_p0_fairDays, .ref a_p0_images, .ref a_p0_imageHeld, .ref a_p0_sheets, .int (Int32.ofInt i_p0_latestFault), .int (Int32.ofInt i_p0_latestTear)])), (a_p0_rules, .inr (6, [.int (Int32.ofInt i_p0_rules_seats), .int (Int32.ofInt i_p0_rules_stirs), .ref a_p0_rules_need, .ref a_p0_rules_kind, .ref a_p0_rules_first, .ref a_p0_rules_second, .ref a_p0_rules_after])), (a_p0_rules_after, .inl (G 1, 35, .inl (zA v_p0_rules_after))), (a_p0_state, .inr (8, [.ref a_p0_state_pieces, .ref a_p0_state_friends, .ref a_p0_state_spoons, .ref a_p0_state_eaten, .ref a_p0_state_seen, .int (Int32.ofInt i_p0_state_seenDays), .int (Int32.ofInt i_p0_state_bone), .int (Int32.ofInt i_p0_state_king), .int (Int32.ofInt i_p0_state_days)])), (a_p0_state_friends, .inl (G 1, 7, .inl (zA v_p0_state_friends))), (a_p0_kitchen, .inr (2, [.ref a_p0_rules, .ref a_p0_state, .ref a_p0_kitchen_places, .ref a_p0_kitchen_holders, .ref a_p0_kitchen_stirred])), (a_p0_kitchen_places, .inl (G 1, 49, .inl (zA v_p0_kitchen_places))), (a_p0_kitchen_holders, .inl (G 1, 49, .inl (zA v_p0_kitchen_holders))), (a_p0_luck, .inr (3, [.ref a_p0_kitchen, .ref a_p0_luck_rows, .ref a_p0_luck_later, .ref a_p0_luck_finds])), (a_p0_luck_rows, .inl (G 2, 49, .inr (.inl (zL v_p0_luck_rows)))), (a_p0_luck_later, .inl (G 2, 49, .inr (.inl (zL v_p0_luck_later))))] s.heap.size = A at hD ⊢
  have hA : ∀ q : Nat, s.heap.size ≤ q → A q := fun q h => by rw [← hAe]; exact Or.inr h
  clear hAe hD0
  have hS : va_S A s.heap s.heap [] := va_S.rf
  have hl := lv_entry ([.ref a_p0, .int (Int32.ofInt x1), .int (Int32.ofInt x2), .int (Int32.ofInt x3)]) (n := 4) (Nat.le_of_ble_eq_true rfl)
  rw [lg_entry_eq]
  generalize (lg_sl ([.ref a_p0, .int (Int32.ofInt x1), .int (Int32.ofInt x2), .int (Int32.ofInt x3)]) ++ List.replicate (4 - (lg_sl ([.ref a_p0, .int (Int32.ofInt x1), .int (Int32.ofInt x2), .int (Int32.ofInt x3)])).length) Slot.unset).toArray = ls at hl ⊢
  have hl : lv_has ls 4 [(0, .ref a_p0), (1, .int (Int32.ofInt x1)), (2, .int (Int32.ofInt x2)), (3, .int (Int32.ofInt x3))] := hl
  refine W_nameQ (fun Q hQ => ?_)
  obtain ⟨H, hH⟩ : ∃ H, H = s.heap := ⟨_, rfl⟩
  replace hS : va_S A s.heap H [] := by rw [hH]; exact hS
  replace hP : va_P D vwCl [(a_p0, .inr (11, [.ref a_p0_rules, .ref a_p0_state, .ref a_p0_tape, .ref a_p0_reader, .ref a_p0_kitchen, .ref a_p0_luck, .ref a_p0_plans, .ref a_p0_coups, .ref a_p0_past, .ref a_p0_fairDays, .ref a_p0_images, .ref a_p0_imageHeld, .ref a_p0_sheets, .int (Int32.ofInt i_p0_latestFault), .int (Int32.ofInt i_p0_latestTear)])), (a_p0_rules, .inr (6, [.int (Int32.ofInt i_p0_rules_seats), .int (Int32.ofInt i_p0_rules_stirs), .ref a_p0_rules_need, .ref a_p0_rules_kind, .ref a_p0_rules_first, .ref a_p0_rules_second, .ref a_p0_rules_after])), (a_p0_rules_after, .inl (G 1, 35, .inl (zA v_p0_rules_after))), (a_p0_state, .inr (8, [.ref a_p0_state_pieces, .ref a_p0_state_friends, .ref a_p0_state_spoons, .ref a_p0_state_eaten, .ref a_p0_state_seen, .int (Int32.ofInt i_p0_state_seenDays), .int (Int32.ofInt i_p0_state_bone), .int (Int32.ofInt i_p0_state_king), .int (Int32.ofInt i_p0_state_days)])), (a_p0_state_friends, .inl (G 1, 7, .inl (zA v_p0_state_friends))), (a_p0_kitchen, .inr (2, [.ref a_p0_rules, .ref a_p0_state, .ref a_p0_kitchen_places, .ref a_p0_kitchen_holders, .ref a_p0_kitchen_stirred])), (a_p0_kitchen_places, .inl (G 1, 49, .inl (zA v_p0_kitchen_places))), (a_p0_kitchen_holders, .inl (G 1, 49, .inl (zA v_p0_kitchen_holders))), (a_p0_luck, .inr (3, [.ref a_p0_kitchen, .ref a_p0_luck_rows, .ref a_p0_luck_later, .ref a_p0_luck_finds])), (a_p0_luck_rows, .inl (G 2, 49, .inr (.inl (zL v_p0_luck_rows)))), (a_p0_luck_later, .inl (G 2, 49, .inr (.inl (zL v_p0_luck_later))))] H := by rw [hH]; exact hP
  rw [← hH]
  clear hH
  unfold f_X11_chance at hf
  refine lv_aload_n hx hb dX11_chance_0 rfl (lv_at hl 0 rfl) ?_
  refine va_get (D := D) (ci := 11) (v := .ref a_p0_rules) (C := RX11) (T := TX11) (N := 15) hx hb hts inX11_chance_X11 hown hK hP 0 rfl rfl 0 (by decide) (hts _ mwX11_chance_1) (fun _ h9 => h9) rfl dX11_chance_1 ?_
  refine lv_iload_n hx hb dX11_chance_4 rfl (lv_at hl 1 rfl) ?_
  have hq := bd1_s hf
  clear hf
  obtain ⟨z1, hcall, hf⟩ := hq
  refine gnI (va_runV (As := [.int (Int32.ofInt x1)]) (rest := []) ⟨hx, hb, hml, hown, hts⟩ (c_X6_hasSeat (l := l) (D := D) (G := G) (sz := H.size) (a_p0 := a_p0_rules) (a_p0_need := a_p0_rules_need) (a_p0_kind := a_p0_rules_kind) (a_p0_first := a_p0_rules_first) (a_p0_second := a_p0_rules_second) (a_p0_after := a_p0_rules_after) (i_p0_seats := i_p0_rules_seats) (i_p0_stirs := i_p0_rules_stirs) (x1 := x1) (r := z1) (hf := hcall)) (cwV 1 hts gX11_chance_X6_hasSeat rfl rfl rfl hdV_yX6_hasSeat_RX6 ⟨Nat.le_of_ble_eq_true rfl, Nat.le_of_ble_eq_true rfl⟩) (preG_V (ci := 6) (q := (RX6, TX6, 7)) (hP.sub [1] rfl) (hD.sub [1] rfl rfl) hK rfl rfl) rfl rfl hl.1 rfl (lv_room (Nat.le_of_ble_eq_true rfl)) dX11_chance_5 ⟨Nat.le_of_ble_eq_true rfl, Nat.le_of_ble_eq_true rfl⟩) hP hD hS hA [1] rfl (fun H locs hP hD hS => ?_)
  clear hcall
  have hr1 := ck_c hf
  replace hf := ck_r hf
  refine lv_if_eq (tgt := 28) hx hb dX11_chance_8 (by decide) (fun cc => ?_) (fun cc => ?_)
  ·
    replace hf := ite_t ((z_eq0 hr1).mp cc) hf
    clear cc
    refine lv_ldc2 (v := (-1 : Int64)) hx hb hown (hts _ mwX11_chance_2) dX11_chance_28 (z_cl (show Int64.ofInt (-1 : Int) = _ from by decide) ?_)
    obtain ⟨rfl, rfl, rfl, rfl, rfl⟩ := ou5 hf
    rw [hQ]
    exact W.lret hx hb hr (fun t ht hW => ⟨⟨_, (), rfl, rfl, by rw [ht]; exact hP, va_K.moved hW.alike hK, hD⟩, hS.F ht⟩) hS.2.2 dX11_chance_31
  ·
    replace hf := ite_f (fun h9 => cc ((z_eq0 hr1).mpr h9)) hf
    clear cc
    refine lv_iload_n hx hb dX11_chance_11 rfl (lv_at hl 2 rfl) ?_
    have hr2 := ck_c hf
    replace hf := ck_r hf
    refine lv_if_lt (tgt := 28) hx hb dX11_chance_12 (by decide) (fun cc => ?_) (fun cc => ?_)
    ·
      replace hf := ite_t ((z_lt0 hr2).mp cc) hf
      clear cc
      refine lv_ldc2 (v := (-1 : Int64)) hx hb hown (hts _ mwX11_chance_2) dX11_chance_28 (z_cl (show Int64.ofInt (-1 : Int) = _ from by decide) ?_)
      obtain ⟨rfl, rfl, rfl, rfl, rfl⟩ := ou5 hf
      rw [hQ]
      exact W.lret hx hb hr (fun t ht hW => ⟨⟨_, (), rfl, rfl, by rw [ht]; exact hP, va_K.moved hW.alike hK, hD⟩, hS.F ht⟩) hS.2.2 dX11_chance_31
    ·
      replace hf := ite_f (fun h9 => cc ((z_lt0 hr2).mpr h9)) hf
      clear cc
      refine lv_iload_n hx hb dX11_chance_15 rfl (lv_at hl 2 rfl) ?_
      refine lv_bipush (v := Int32.ofInt (10 : Int)) hx hb dX11_chance_16 (by decide) ?_
      refine lv_icmp_gt (tgt := 28) hx hb dX11_chance_18 (by decide) (fun cc => ?_) (fun cc => ?_)
      ·
        replace hf := ite_t ((z_lt (by decide) hr2).mp cc) hf
        clear cc
        refine lv_ldc2 (v := (-1 : Int64)) hx hb hown (hts _ mwX11_chance_2) dX11_chance_28 (z_cl (show Int64.ofInt (-1 : Int) = _ from by decide) ?_)
        obtain ⟨rfl, rfl, rfl, rfl, rfl⟩ := ou5 hf
        rw [hQ]
        exact W.lret hx hb hr (fun t ht hW => ⟨⟨_, (), rfl, rfl, by rw [ht]; exact hP, va_K.moved hW.alike hK, hD⟩, hS.F ht⟩) hS.2.2 dX11_chance_31
      ·
        replace hf := ite_f (fun h9 => cc ((z_lt (by decide) hr2).mpr h9)) hf
        clear cc
        refine lv_iload_n hx hb dX11_chance_21 rfl (lv_at hl 3 rfl) ?_
        have hq := bd1_s hf
        clear hf
        obtain ⟨z4, hcall, hf⟩ := hq
        refine gnI (va_runS (As := [.int (Int32.ofInt x3)]) (rest := []) ⟨hx, hb, hml, hown, hts⟩ (c_X11_isPart (l := l) (D := D) (G := G) (sz := H.size) (x0 := x3) (r := z4) (hf := hcall)) (va_cwS 1 hts gX11_chance_X11_isPart rfl rfl rfl (by decide +kernel) ⟨Nat.le_of_ble_eq_true rfl, Nat.le_of_ble_eq_true rfl⟩) (preG_S (hP.sub [] rfl) (hD.sub [] rfl rfl) hK) rfl rfl hl.1 rfl (lv_room (Nat.le_of_ble_eq_true rfl)) dX11_chance_22 ⟨Nat.le_of_ble_eq_true rfl, Nat.le_of_ble_eq_true rfl⟩) hP hD hS hA [] rfl (fun H locs hP hD hS => ?_)
        clear hcall
        have hr4 := ck_c hf
        replace hf := ck_r hf
        refine lv_if_ne (tgt := 32) hx hb dX11_chance_25 (by decide) (fun cc => ?_) (fun cc => ?_)
        ·
          replace hf := ite_f (fun h9 => cc ((z_eq0 hr4).mpr h9)) hf
          clear cc
          refine lv_aload_n hx hb dX11_chance_32 rfl (lv_at hl 0 rfl) ?_
          refine va_get (D := D) (ci := 11) (v := .ref a_p0_rules) (C := RX11) (T := TX11) (N := 15) hx hb hts inX11_chance_X11 hown hK hP 0 rfl rfl 0 (by decide) (hts _ mwX11_chance_1) (fun _ h9 => h9) rfl dX11_chance_33 ?_
          refine va_get (D := D) (ci := 6) (v := .int (Int32.ofInt i_p0_rules_stirs)) (C := RX6) (T := TX6) (N := 7) hx hb hts inX11_chance_X6 hown hK hP 1 rfl rfl 1 (by decide) (hts _ mwX11_chance_4) (fun _ h9 => h9) rfl dX11_chance_36 ?_
          have hr5 := ck_c hf
          replace hf := ck_r hf
          refine lv_if_ne (tgt := 46) hx hb dX11_chance_39 (by decide) (fun cc => ?_) (fun cc => ?_)
          ·
            replace hf := ite_f (fun h9 => cc ((z_eq0 hr5).mpr h9)) hf
            clear cc
            refine lv_aload_n hx hb dX11_chance_46 rfl (lv_at hl 0 rfl) ?_
            refine va_get (D := D) (ci := 11) (v := .ref a_p0_luck) (C := RX11) (T := TX11) (N := 15) hx hb hts inX11_chance_X11 hown hK hP 0 rfl rfl 5 (by decide) (hts _ mwX11_chance_5) (fun _ h9 => h9) rfl dX11_chance_47 ?_
            refine lv_iload_n hx hb dX11_chance_50 rfl (lv_at hl 1 rfl) ?_
            refine lv_iload_n hx hb dX11_chance_51 rfl (lv_at hl 2 rfl) ?_
            have hq := bd5_s hf
            clear hf
            obtain ⟨z7, w8, w9, w10, w11, hcall, hf⟩ := hq
            refine gcL (ws' := [(a_p0, .inr (11, [.ref a_p0_rules, .ref a_p0_state, .ref a_p0_tape, .ref a_p0_reader, .ref a_p0_kitchen, .ref a_p0_luck, .ref a_p0_plans, .ref a_p0_coups, .ref a_p0_past, .ref a_p0_fairDays, .ref a_p0_images, .ref a_p0_imageHeld, .ref a_p0_sheets, .int (Int32.ofInt i_p0_latestFault), .int (Int32.ofInt i_p0_latestTear)])), (a_p0_rules, .inr (6, [.int (Int32.ofInt i_p0_rules_seats), .int (Int32.ofInt i_p0_rules_stirs), .ref a_p0_rules_need, .ref a_p0_rules_kind, .ref a_p0_rules_first, .ref a_p0_rules_second, .ref a_p0_rules_after])), (a_p0_rules_after, .inl (G 1, 35, .inl (zA v_p0_rules_after))), (a_p0_state, .inr (8, [.ref a_p0_state_pieces, .ref a_p0_state_friends, .ref a_p0_state_spoons, .ref a_p0_state_eaten, .ref a_p0_state_seen, .int (Int32.ofInt i_p0_state_seenDays), .int (Int32.ofInt i_p0_state_bone), .int (Int32.ofInt i_p0_state_king), .int (Int32.ofInt i_p0_state_days)])), (a_p0_state_friends, .inl (G 1, 7, .inl (zA v_p0_state_friends))), (a_p0_kitchen, .inr (2, [.ref a_p0_rules, .ref a_p0_state, .ref a_p0_kitchen_places, .ref a_p0_kitchen_holders, .ref a_p0_kitchen_stirred])), (a_p0_kitchen_places, .inl (G 1, 49, .inl (zA w8))), (a_p0_kitchen_holders, .inl (G 1, 49, .inl (zA w9))), (a_p0_luck, .inr (3, [.ref a_p0_kitchen, .ref a_p0_luck_rows, .ref a_p0_luck_later, .ref a_p0_luck_finds])), (a_p0_luck_rows, .inl (G 2, 49, .inr (.inl (zL w10)))), (a_p0_luck_later, .inl (G 2, 49, .inr (.inl (zL w11))))]) (va_runV (As := [.int (Int32.ofInt x1), .int (Int32.ofInt x2)]) (rest := []) ⟨hx, hb, hml, hown, hts⟩ (c_X3_rowsToCrown (l := l) (D := D) (G := G) (sz := H.size) (a_p0 := a_p0_luck) (a_p0_kitchen := a_p0_kitchen) (a_p0_rows := a_p0_luck_rows) (a_p0_later := a_p0_luck_later) (a_p0_finds := a_p0_luck_finds) (a_p0_kitchen_rules := a_p0_rules) (a_p0_kitchen_state := a_p0_state) (a_p0_kitchen_places := a_p0_kitchen_places) (a_p0_kitchen_holders := a_p0_kitchen_holders) (a_p0_kitchen_stirred := a_p0_kitchen_stirred) (a_p0_kitchen_rules_need := a_p0_rules_need) (a_p0_kitchen_rules_kind := a_p0_rules_kind) (a_p0_kitchen_rules_first := a_p0_rules_first) (a_p0_kitchen_rules_second := a_p0_rules_second) (a_p0_kitchen_rules_after := a_p0_rules_after) (a_p0_kitchen_state_pieces := a_p0_state_pieces) (a_p0_kitchen_state_friends := a_p0_state_friends) (a_p0_kitchen_state_spoons := a_p0_state_spoons) (a_p0_kitchen_state_eaten := a_p0_state_eaten) (a_p0_kitchen_state_seen := a_p0_state_seen) (i_p0_kitchen_rules_seats := i_p0_rules_seats) (i_p0_kitchen_rules_stirs := i_p0_rules_stirs) (v_p0_kitchen_rules_after := v_p0_rules_after) (i_p0_kitchen_state_seenDays := i_p0_state_seenDays) (i_p0_kitchen_state_bone := i_p0_state_bone) (i_p0_kitchen_state_king := i_p0_state_king) (i_p0_kitchen_state_days := i_p0_state_days) (v_p0_kitchen_state_friends := v_p0_state_friends) (v_p0_kitchen_places := v_p0_kitchen_places) (v_p0_kitchen_holders := v_p0_kitchen_holders) (v_p0_rows := v_p0_luck_rows) (v_p0_later := v_p0_luck_later) (x1 := x1) (x2 := x2) (r := z7) (o_v_p0_kitchen_places := w8) (o_v_p0_kitchen_holders := w9) (o_v_p0_rows := w10) (o_v_p0_later := w11) (hf := hcall)) (cwV 2 hts gX11_chance_X3_rowsToCrown rfl rfl rfl hdV_yX3_rowsToCrown_RX3 ⟨Nat.le_of_ble_eq_true rfl, Nat.le_of_ble_eq_true rfl⟩) (preG_V (ci := 3) (q := (RX3, TX3, 4)) (hP.sub [8, 5, 1, 2, 3, 4, 6, 7, 9, 10] rfl) (hD.sub [8, 5, 1, 2, 3, 4, 6, 7, 9, 10] rfl rfl) hK rfl rfl) rfl rfl hl.1 rfl (lv_room (Nat.le_of_ble_eq_true rfl)) dX11_chance_52 ⟨Nat.le_of_ble_eq_true rfl, Nat.le_of_ble_eq_true rfl⟩) hP hD hS hA [8, 5, 1, 2, 3, 4, 6, 7, 9, 10] [0] [0, 3, 4, 5, 6, 2, 7, 8, 1, 9, 10] rfl rfl rfl (by decide) rfl rfl rfl (fun H locs hP hD hS => ?_)
            clear hcall
            refine lv_aload_n hx hb dX11_chance_55 rfl (lv_at hl 0 rfl) ?_
            refine va_get (D := D) (ci := 11) (v := .ref a_p0_rules) (C := RX11) (T := TX11) (N := 15) hx hb hts inX11_chance_X11 hown hK hP 0 rfl rfl 0 (by decide) (hts _ mwX11_chance_1) (fun _ h9 => h9) rfl dX11_chance_56 ?_
            refine va_get (D := D) (ci := 6) (v := .int (Int32.ofInt i_p0_rules_stirs)) (C := RX6) (T := TX6) (N := 7) hx hb hts inX11_chance_X6 hown hK hP 1 rfl rfl 1 (by decide) (hts _ mwX11_chance_4) (fun _ h9 => h9) rfl dX11_chance_59 ?_
            refine lv_iload_n hx hb dX11_chance_62 rfl (lv_at hl 2 rfl) ?_
            have hq := bd1_s hf
            clear hf
            obtain ⟨z12, hcall, hf⟩ := hq
            refine gnL (va_runS (As := [.int (Int32.ofInt i_p0_rules_stirs), .int (Int32.ofInt x2)]) (rest := [.long (Int64.ofInt z7)]) ⟨hx, hb, hml, hown, hts⟩ (c_X3_power (l := l) (D := D) (G := G) (sz := H.size) (x0 := i_p0_rules_stirs) (x1 := x2) (r := z12) (hf := hcall)) (va_cwS 2 hts gX11_chance_X3_power rfl rfl rfl (by decide +kernel) ⟨Nat.le_of_ble_eq_true rfl, Nat.le_of_ble_eq_true rfl⟩) (preG_S (hP.sub [] rfl) (hD.sub [] rfl rfl) hK) rfl rfl hl.1 rfl (lv_room (Nat.le_of_ble_eq_true rfl)) dX11_chance_63 ⟨Nat.le_of_ble_eq_true rfl, Nat.le_of_ble_eq_true rfl⟩) hP hD hS hA [] rfl (fun H locs hP hD hS => ?_)
            clear hcall
            refine lv_iload_n hx hb dX11_chance_66 rfl (lv_at hl 3 rfl) ?_
            have hq := bd1_s hf
            clear hf
            obtain ⟨z13, hcall, hf⟩ := hq
            refine gnL (va_runS (As := [.long (Int64.ofInt z7), .long (Int64.ofInt z12), .int (Int32.ofInt x3)]) (rest := []) ⟨hx, hb, hml, hown, hts⟩ (c_X3_part (l := l) (D := D) (G := G) (sz := H.size) (x0 := z7) (x2 := z12) (x4 := x3) (r := z13) (hf := hcall)) (va_cwS 3 hts gX11_chance_X3_part rfl rfl rfl (by decide +kernel) ⟨Nat.le_of_ble_eq_true rfl, Nat.le_of_ble_eq_true rfl⟩) (preG_S (hP.sub [] rfl) (hD.sub [] rfl rfl) hK) rfl rfl hl.1 rfl (lv_room (Nat.le_of_ble_eq_true rfl)) dX11_chance_67 ⟨Nat.le_of_ble_eq_true rfl, Nat.le_of_ble_eq_true rfl⟩) hP hD hS hA [] rfl (fun H locs hP hD hS => ?_)
            clear hcall
            obtain ⟨rfl, rfl, rfl, rfl, rfl⟩ := ou5 hf
            rw [hQ]
            exact W.lret hx hb hr (fun t ht hW => ⟨⟨_, (), rfl, rfl, by rw [ht]; exact hP, va_K.moved hW.alike hK, hD⟩, hS.F ht⟩) hS.2.2 dX11_chance_70
          ·
            replace hf := ite_t ((z_eq0 hr5).mp cc) hf
            clear cc
            refine lv_ldc2 (v := (-2 : Int64)) hx hb hown (hts _ mwX11_chance_7) dX11_chance_42 (z_cl (show Int64.ofInt (-2 : Int) = _ from by decide) ?_)
            obtain ⟨rfl, rfl, rfl, rfl, rfl⟩ := ou5 hf
            rw [hQ]
            exact W.lret hx hb hr (fun t ht hW => ⟨⟨_, (), rfl, rfl, by rw [ht]; exact hP, va_K.moved hW.alike hK, hD⟩, hS.F ht⟩) hS.2.2 dX11_chance_45
        ·
          replace hf := ite_t ((z_eq0 hr4).mp cc) hf
          clear cc
          refine lv_ldc2 (v := (-1 : Int64)) hx hb hown (hts _ mwX11_chance_2) dX11_chance_28 (z_cl (show Int64.ofInt (-1 : Int) = _ from by decide) ?_)
          obtain ⟨rfl, rfl, rfl, rfl, rfl⟩ := ou5 hf
          rw [hQ]
          exact W.lret hx hb hr (fun t ht hW => ⟨⟨_, (), rfl, rfl, by rw [ht]; exact hP, va_K.moved hW.alike hK, hD⟩, hS.F ht⟩) hS.2.2 dX11_chance_31

noncomputable def f_X11_lasts (i_p0_rules_seats : Int) (i_p0_rules_stirs : Int) (v_p0_rules_after : (Int → Int)) (i_p0_state_bone : Int) (i_p0_state_king : Int) (v_p0_state_friends : (Int → Int)) (v_p0_kitchen_places : (Int → Int)) (v_p0_kitchen_holders : (Int → Int)) (v_p0_luck_rows : (Int → Int)) (v_p0_luck_later : (Int → Int)) (x1 : Int) (x2 : Int) : Option (Int × (Int → Int) × (Int → Int) × (Int → Int) × (Int → Int)) := (ck (z_r32 x1) (if x1 < (0 : Int) then (some ((-1 : Int), v_p0_kitchen_places, v_p0_kitchen_holders, v_p0_luck_rows, v_p0_luck_later)) else (if (10 : Int) < x1 then (some ((-1 : Int), v_p0_kitchen_places, v_p0_kitchen_holders, v_p0_luck_rows, v_p0_luck_later)) else (bd1 (f_X11_isPart x2) (fun (z2 : Int) => (ck (z_r32 z2) (if z2 = (0 : Int) then (some ((-1 : Int), v_p0_kitchen_places, v_p0_kitchen_holders, v_p0_luck_rows, v_p0_luck_later)) else (ck (z_r32 i_p0_rules_stirs) (if i_p0_rules_stirs = (0 : Int) then (some ((-2 : Int), v_p0_kitchen_places, v_p0_kitchen_holders, v_p0_luck_rows, v_p0_luck_later)) else (bd5 (f_X3_rowsOfReign i_p0_rules_seats i_p0_rules_stirs v_p0_rules_after i_p0_state_bone i_p0_state_king v_p0_state_friends v_p0_kitchen_places v_p0_kitchen_holders v_p0_luck_rows v_p0_luck_later x1) (fun (z5 : Int) (w6 : (Int → Int)) (w7 : (Int → Int)) (w8 : (Int → Int)) (w9 : (Int → Int)) => (bd1 (f_X3_power i_p0_rules_stirs x1) (fun (z10 : Int) => (bd1 (f_X3_part z5 z10 x2) (fun (z11 : Int) => (some (z11, w6, w7, w8, w9)))))))))))))))))
abbrev rm_X11_lasts : Room := { frames := 5, cells := 0, slots := 0, locals := 112 }
theorem mwX11_lasts_0 : Cond.constantLong RX11 202 (-1) ∈ wsX11_lasts := by first | exact List.mem_of_getElem? (i := 1) rfl | decide +kernel
theorem inX11_lasts_X11 : ∀ w ∈ wsX110, w ∈ wsX11_lasts := by first | exact fun w h => List.mem_cons_of_mem _ (List.mem_append_left _ (List.mem_append_left _ (List.mem_append_left _ (List.mem_append_left _ (List.mem_append_right _ h))))) | decide +kernel
theorem mwX11_lasts_2 : Cond.fieldLink RX11 10 "LadleKings" "rules" "LLadleKings$Rules;" ∈ wsX11_lasts := by first | exact List.mem_of_getElem? (i := 2) rfl | decide +kernel
theorem inX11_lasts_X6 : ∀ w ∈ wsX60, w ∈ wsX11_lasts := by first | exact fun w h => List.mem_cons_of_mem _ (List.mem_append_left _ (List.mem_append_left _ (List.mem_append_left _ (List.mem_append_right _ h)))) | decide +kernel
theorem mwX11_lasts_4 : Cond.fieldLink RX11 133 "LadleKings$Rules" "stirs" "I" ∈ wsX11_lasts := by first | exact List.mem_of_getElem? (i := 3) rfl | decide +kernel
theorem mwX11_lasts_5 : Cond.fieldLink RX11 53 "LadleKings" "luck" "LLadleKings$Luck;" ∈ wsX11_lasts := by first | exact List.mem_of_getElem? (i := 5) rfl | decide +kernel
theorem hdV_yX3_rowsOfReign_RX3 : yX3_rowsOfReign.cls = RX3 ∧ yX3_rowsOfReign.cls ≠ "java/lang/invoke/MethodHandle" ∧ yX3_rowsOfReign.cls ≠ "java/lang/invoke/VarHandle" ∧ (parseMethodDescriptor yX3_rowsOfReign.desc).map (fun d => d.parameters.length) = some 1 := by decide +kernel
theorem mwX11_lasts_7 : Cond.constantLong RX11 204 (-2) ∈ wsX11_lasts := by first | exact List.mem_of_getElem? (i := 4) rfl | decide +kernel
set_option maxHeartbeats 8000000 in
set_option maxRecDepth 100000 in
theorem c_X11_lasts (l : Launch) (D : va_G) (G : Nat → ClassId) (sz : Nat) (a_p0 : Nat) (a_p0_rules : Nat) (a_p0_state : Nat) (a_p0_tape : Nat) (a_p0_reader : Nat) (a_p0_kitchen : Nat) (a_p0_luck : Nat) (a_p0_plans : Nat) (a_p0_coups : Nat) (a_p0_past : Nat) (a_p0_fairDays : Nat) (a_p0_images : Nat) (a_p0_imageHeld : Nat) (a_p0_sheets : Nat) (a_p0_rules_need : Nat) (a_p0_rules_kind : Nat) (a_p0_rules_first : Nat) (a_p0_rules_second : Nat) (a_p0_rules_after : Nat) (a_p0_state_pieces : Nat) (a_p0_state_friends : Nat) (a_p0_state_spoons : Nat) (a_p0_state_eaten : Nat) (a_p0_state_seen : Nat) (a_p0_kitchen_places : Nat) (a_p0_kitchen_holders : Nat) (a_p0_kitchen_stirred : Nat) (a_p0_luck_rows : Nat) (a_p0_luck_later : Nat) (a_p0_luck_finds : Nat) (i_p0_latestFault : Int) (i_p0_latestTear : Int) (i_p0_rules_seats : Int) (i_p0_rules_stirs : Int) (v_p0_rules_after : (Int → Int)) (i_p0_state_seenDays : Int) (i_p0_state_bone : Int) (i_p0_state_king : Int) (i_p0_state_days : Int) (v_p0_state_friends : (Int → Int)) (v_p0_kitchen_places : (Int → Int)) (v_p0_kitchen_holders : (Int → Int)) (v_p0_luck_rows : (Int → Int)) (v_p0_luck_later : (Int → Int)) (x1 : Int) (x2 : Int) (r : Int) (o_v_p0_kitchen_places : (Int → Int)) (o_v_p0_kitchen_holders : (Int → Int)) (o_v_p0_luck_rows : (Int → Int)) (o_v_p0_luck_later : (Int → Int)) (hf : f_X11_lasts i_p0_rules_seats i_p0_rules_stirs v_p0_rules_after i_p0_state_bone i_p0_state_king v_p0_state_friends v_p0_kitchen_places v_p0_kitchen_holders v_p0_luck_rows v_p0_luck_later x1 x2 = some (r, o_v_p0_kitchen_places, o_v_p0_kitchen_holders, o_v_p0_luck_rows, o_v_p0_luck_later)) : Met l yX11_lasts wsX11_lasts rm_X11_lasts (pcG D G [.ref a_p0, .int (Int32.ofInt x1), .int (Int32.ofInt x2)] sz [(a_p0, .inr (11, [.ref a_p0_rules, .ref a_p0_state, .ref a_p0_tape, .ref a_p0_reader, .ref a_p0_kitchen, .ref a_p0_luck, .ref a_p0_plans, .ref a_p0_coups, .ref a_p0_past, .ref a_p0_fairDays, .ref a_p0_images, .ref a_p0_imageHeld, .ref a_p0_sheets, .int (Int32.ofInt i_p0_latestFault), .int (Int32.ofInt i_p0_latestTear)])), (a_p0_rules, .inr (6, [.int (Int32.ofInt i_p0_rules_seats), .int (Int32.ofInt i_p0_rules_stirs), .ref a_p0_rules_need, .ref a_p0_rules_kind, .ref a_p0_rules_first, .ref a_p0_rules_second, .ref a_p0_rules_after])), (a_p0_rules_after, .inl (G 1, 35, .inl (zA v_p0_rules_after))), (a_p0_state, .inr (8, [.ref a_p0_state_pieces, .ref a_p0_state_friends, .ref a_p0_state_spoons, .ref a_p0_state_eaten, .ref a_p0_state_seen, .int (Int32.ofInt i_p0_state_seenDays), .int (Int32.ofInt i_p0_state_bone), .int (Int32.ofInt i_p0_state_king), .int (Int32.ofInt i_p0_state_days)])), (a_p0_state_friends, .inl (G 1, 7, .inl (zA v_p0_state_friends))), (a_p0_kitchen, .inr (2, [.ref a_p0_rules, .ref a_p0_state, .ref a_p0_kitchen_places, .ref a_p0_kitchen_holders, .ref a_p0_kitchen_stirred])), (a_p0_kitchen_places, .inl (G 1, 49, .inl (zA v_p0_kitchen_places))), (a_p0_kitchen_holders, .inl (G 1, 49, .inl (zA v_p0_kitchen_holders))), (a_p0_luck, .inr (3, [.ref a_p0_kitchen, .ref a_p0_luck_rows, .ref a_p0_luck_later, .ref a_p0_luck_finds])), (a_p0_luck_rows, .inl (G 2, 49, .inr (.inl (zL v_p0_luck_rows)))), (a_p0_luck_later, .inl (G 2, 49, .inr (.inl (zL v_p0_luck_later))))]) (qcL D G (Int64.ofInt r) [(a_p0, .inr (11, [.ref a_p0_rules, .ref a_p0_state, .ref a_p0_tape, .ref a_p0_reader, .ref a_p0_kitchen, .ref a_p0_luck, .ref a_p0_plans, .ref a_p0_coups, .ref a_p0_past, .ref a_p0_fairDays, .ref a_p0_images, .ref a_p0_imageHeld, .ref a_p0_sheets, .int (Int32.ofInt i_p0_latestFault), .int (Int32.ofInt i_p0_latestTear)])), (a_p0_rules, .inr (6, [.int (Int32.ofInt i_p0_rules_seats), .int (Int32.ofInt i_p0_rules_stirs), .ref a_p0_rules_need, .ref a_p0_rules_kind, .ref a_p0_rules_first, .ref a_p0_rules_second, .ref a_p0_rules_after])), (a_p0_rules_after, .inl (G 1, 35, .inl (zA v_p0_rules_after))), (a_p0_state, .inr (8, [.ref a_p0_state_pieces, .ref a_p0_state_friends, .ref a_p0_state_spoons, .ref a_p0_state_eaten, .ref a_p0_state_seen, .int (Int32.ofInt i_p0_state_seenDays), .int (Int32.ofInt i_p0_state_bone), .int (Int32.ofInt i_p0_state_king), .int (Int32.ofInt i_p0_state_days)])), (a_p0_state_friends, .inl (G 1, 7, .inl (zA v_p0_state_friends))), (a_p0_kitchen, .inr (2, [.ref a_p0_rules, .ref a_p0_state, .ref a_p0_kitchen_places, .ref a_p0_kitchen_holders, .ref a_p0_kitchen_stirred])), (a_p0_kitchen_places, .inl (G 1, 49, .inl (zA o_v_p0_kitchen_places))), (a_p0_kitchen_holders, .inl (G 1, 49, .inl (zA o_v_p0_kitchen_holders))), (a_p0_luck, .inr (3, [.ref a_p0_kitchen, .ref a_p0_luck_rows, .ref a_p0_luck_later, .ref a_p0_luck_finds])), (a_p0_luck_rows, .inl (G 2, 49, .inr (.inl (zL o_v_p0_luck_rows)))), (a_p0_luck_later, .inl (G 2, 49, .inr (.inl (zL o_v_p0_luck_later))))] (va_A [(a_p0, .inr (11, [.ref a_p0_rules, .ref a_p0_state, .ref a_p0_tape, .ref a_p0_reader, .ref a_p0_kitchen, .ref a_p0_luck, .ref a_p0_plans, .ref a_p0_coups, .ref a_p0_past, .ref a_p0_fairDays, .ref a_p0_images, .ref a_p0_imageHeld, .ref a_p0_sheets, .int (Int32.ofInt i_p0_latestFault), .int (Int32.ofInt i_p0_latestTear)])), (a_p0_rules, .inr (6, [.int (Int32.ofInt i_p0_rules_seats), .int (Int32.ofInt i_p0_rules_stirs), .ref a_p0_rules_need, .ref a_p0_rules_kind, .ref a_p0_rules_first, .ref a_p0_rules_second, .ref a_p0_rules_after])), (a_p0_rules_after, .inl (G 1, 35, .inl (zA v_p0_rules_after))), (a_p0_state, .inr (8, [.ref a_p0_state_pieces, .ref a_p0_state_friends, .ref a_p0_state_spoons, .ref a_p0_state_eaten, .ref a_p0_state_seen, .int (Int32.ofInt i_p0_state_seenDays), .int (Int32.ofInt i_p0_state_bone), .int (Int32.ofInt i_p0_state_king), .int (Int32.ofInt i_p0_state_days)])), (a_p0_state_friends, .inl (G 1, 7, .inl (zA v_p0_state_friends))), (a_p0_kitchen, .inr (2, [.ref a_p0_rules, .ref a_p0_state, .ref a_p0_kitchen_places, .ref a_p0_kitchen_holders, .ref a_p0_kitchen_stirred])), (a_p0_kitchen_places, .inl (G 1, 49, .inl (zA v_p0_kitchen_places))), (a_p0_kitchen_holders, .inl (G 1, 49, .inl (zA v_p0_kitchen_holders))), (a_p0_luck, .inr (3, [.ref a_p0_kitchen, .ref a_p0_luck_rows, .ref a_p0_luck_later, .ref a_p0_luck_finds])), (a_p0_luck_rows, .inl (G 2, 49, .inr (.inl (zL v_p0_luck_rows)))), (a_p0_luck_later, .inl (G 2, 49, .inr (.inl (zL v_p0_luck_later))))] sz)) 0 0 (va_A [(a_p0, .inr (11, [.ref a_p0_rules, .ref a_p0_state, .ref a_p0_tape, .ref a_p0_reader, .ref a_p0_kitchen, .ref a_p0_luck, .ref a_p0_plans, .ref a_p0_coups, .ref a_p0_past, .ref a_p0_fairDays, .ref a_p0_images, .ref a_p0_imageHeld, .ref a_p0_sheets, .int (Int32.ofInt i_p0_latestFault), .int (Int32.ofInt i_p0_latestTear)])), (a_p0_rules, .inr (6, [.int (Int32.ofInt i_p0_rules_seats), .int (Int32.ofInt i_p0_rules_stirs), .ref a_p0_rules_need, .ref a_p0_rules_kind, .ref a_p0_rules_first, .ref a_p0_rules_second, .ref a_p0_rules_after])), (a_p0_rules_after, .inl (G 1, 35, .inl (zA v_p0_rules_after))), (a_p0_state, .inr (8, [.ref a_p0_state_pieces, .ref a_p0_state_friends, .ref a_p0_state_spoons, .ref a_p0_state_eaten, .ref a_p0_state_seen, .int (Int32.ofInt i_p0_state_seenDays), .int (Int32.ofInt i_p0_state_bone), .int (Int32.ofInt i_p0_state_king), .int (Int32.ofInt i_p0_state_days)])), (a_p0_state_friends, .inl (G 1, 7, .inl (zA v_p0_state_friends))), (a_p0_kitchen, .inr (2, [.ref a_p0_rules, .ref a_p0_state, .ref a_p0_kitchen_places, .ref a_p0_kitchen_holders, .ref a_p0_kitchen_stirred])), (a_p0_kitchen_places, .inl (G 1, 49, .inl (zA v_p0_kitchen_places))), (a_p0_kitchen_holders, .inl (G 1, 49, .inl (zA v_p0_kitchen_holders))), (a_p0_luck, .inr (3, [.ref a_p0_kitchen, .ref a_p0_luck_rows, .ref a_p0_luck_later, .ref a_p0_luck_finds])), (a_p0_luck_rows, .inl (G 2, 49, .inr (.inl (zL v_p0_luck_rows)))), (a_p0_luck_later, .inl (G 2, 49, .inr (.inl (zL v_p0_luck_later))))] sz) := by
  refine Met.ofW (cc := cX11_lasts) (maxL := 3) (ret := (some .long)) (by decide) rfl ?_
  intro p e s m args below meth c s₁ B hml hv
  obtain ⟨rfl, hsz, hP, hK, hD0⟩ := hv
  have hx := B.exec
  have hb := B.bytes
  have hr := B.returns
  have hts := atoms_spec (ws := wsX11_lasts) B.pre
  have hown : s.vm.findClass RX11 = some m.cls := findClass_of_methodNamed B.named
  have hlocks := B.notSynchronized
  subst hsz
  have hD := hD0.self (sz := s.heap.size)
  generalize hAe : va_A [(a_p0, .inr (11, [.ref a_p0_rules, .ref a_p0_state, .ref a_p0_tape, .ref a_p0_reader, .ref a_p0_kitchen, .ref a_p0_luck, .ref a_p0_plans, .ref a_p0_coups, .ref a_p0_past, .ref a_p0_fairDays, .ref a_p0_images, .ref a_p0_imageHeld, .ref a_p0_sheets, .int (Int32.ofInt i_p0_latestFault), .int (Int32.ofInt i_p0_latestTear)])), (a_p0_rules, .inr (6, [.int (Int32.ofInt i_p0_rules_seats), .int (Int32.ofInt i_p0_rules_stirs), .ref a_p0_rules_need, .ref a_p0_rules_kind, .ref a_p0_rules_first, .ref a_p0_rules_second, .ref a_p0_rules_after])), (a_p0_rules_after, .inl (G 1, 35, .inl (zA v_p0_rules_after))), (a_p0_state, .inr (8, [.ref a_p0_state_pieces, .ref a_p0_state_friends, .ref a_p0_state_spoons, .ref a_p0_state_eaten, .ref a_p0_state_seen, .int (Int32.ofInt i_p0_state_seenDays), .int (Int32.ofInt i_p0_state_bone), .int (Int32.ofInt i_p0_state_king), .int (Int32.ofInt i_p0_state_days)])), (a_p0_state_friends, .inl (G 1, 7, .inl (zA v_p0_state_friends))), (a_p0_kitchen, .inr (2, [.ref a_p0_rules, .ref a_p0_state, .ref a_p0_kitchen_places, .ref a_p0_kitchen_holders, .ref a_p0_kitchen_stirred])), (a_p0_kitchen_places, .inl (G 1, 49, .inl (zA v_p0_kitchen_places))), (a_p0_kitchen_holders, .inl (G 1, 49, .inl (zA v_p0_kitchen_holders))), (a_p0_luck, .inr (3, [.ref a_p0_kitchen, .ref a_p0_luck_rows, .ref a_p0_luck_later, .ref a_p0_luck_finds])), (a_p0_luck_rows, .inl (G 2, 49, .inr (.inl (zL v_p0_luck_rows)))), (a_p0_luck_later, .inl (G 2, 49, .inr (.inl (zL v_p0_luck_later))))] s.heap.size = A at hD ⊢
  have hA : ∀ q : Nat, s.heap.size ≤ q → A q := fun q h => by rw [← hAe]; exact Or.inr h
  clear hAe hD0
  have hS : va_S A s.heap s.heap [] := va_S.rf
  have hl := lv_entry ([.ref a_p0, .int (Int32.ofInt x1), .int (Int32.ofInt x2)]) (n := 3) (Nat.le_of_ble_eq_true rfl)
  rw [lg_entry_eq]
  generalize (lg_sl ([.ref a_p0, .int (Int32.ofInt x1), .int (Int32.ofInt x2)]) ++ List.replicate (3 - (lg_sl ([.ref a_p0, .int (Int32.ofInt x1), .int (Int32.ofInt x2)])).length) Slot.unset).toArray = ls at hl ⊢
  have hl : lv_has ls 3 [(0, .ref a_p0), (1, .int (Int32.ofInt x1)), (2, .int (Int32.ofInt x2))] := hl
  refine W_nameQ (fun Q hQ => ?_)
  obtain ⟨H, hH⟩ : ∃ H, H = s.heap := ⟨_, rfl⟩
  replace hS : va_S A s.heap H [] := by rw [hH]; exact hS
  replace hP : va_P D vwCl [(a_p0, .inr (11, [.ref a_p0_rules, .ref a_p0_state, .ref a_p0_tape, .ref a_p0_reader, .ref a_p0_kitchen, .ref a_p0_luck, .ref a_p0_plans, .ref a_p0_coups, .ref a_p0_past, .ref a_p0_fairDays, .ref a_p0_images, .ref a_p0_imageHeld, .ref a_p0_sheets, .int (Int32.ofInt i_p0_latestFault), .int (Int32.ofInt i_p0_latestTear)])), (a_p0_rules, .inr (6, [.int (Int32.ofInt i_p0_rules_seats), .int (Int32.ofInt i_p0_rules_stirs), .ref a_p0_rules_need, .ref a_p0_rules_kind, .ref a_p0_rules_first, .ref a_p0_rules_second, .ref a_p0_rules_after])), (a_p0_rules_after, .inl (G 1, 35, .inl (zA v_p0_rules_after))), (a_p0_state, .inr (8, [.ref a_p0_state_pieces, .ref a_p0_state_friends, .ref a_p0_state_spoons, .ref a_p0_state_eaten, .ref a_p0_state_seen, .int (Int32.ofInt i_p0_state_seenDays), .int (Int32.ofInt i_p0_state_bone), .int (Int32.ofInt i_p0_state_king), .int (Int32.ofInt i_p0_state_days)])), (a_p0_state_friends, .inl (G 1, 7, .inl (zA v_p0_state_friends))), (a_p0_kitchen, .inr (2, [.ref a_p0_rules, .ref a_p0_state, .ref a_p0_kitchen_places, .ref a_p0_kitchen_holders, .ref a_p0_kitchen_stirred])), (a_p0_kitchen_places, .inl (G 1, 49, .inl (zA v_p0_kitchen_places))), (a_p0_kitchen_holders, .inl (G 1, 49, .inl (zA v_p0_kitchen_holders))), (a_p0_luck, .inr (3, [.ref a_p0_kitchen, .ref a_p0_luck_rows, .ref a_p0_luck_later, .ref a_p0_luck_finds])), (a_p0_luck_rows, .inl (G 2, 49, .inr (.inl (zL v_p0_luck_rows)))), (a_p0_luck_later, .inl (G 2, 49, .inr (.inl (zL v_p0_luck_later))))] H := by rw [hH]; exact hP
  rw [← hH]
  clear hH
  unfold f_X11_lasts at hf
  refine lv_iload_n hx hb dX11_lasts_0 rfl (lv_at hl 1 rfl) ?_
  have hr0 := ck_c hf
  replace hf := ck_r hf
  refine lv_if_lt (tgt := 17) hx hb dX11_lasts_1 (by decide) (fun cc => ?_) (fun cc => ?_)
  ·
    replace hf := ite_t ((z_lt0 hr0).mp cc) hf
    clear cc
    refine lv_ldc2 (v := (-1 : Int64)) hx hb hown (hts _ mwX11_lasts_0) dX11_lasts_17 (z_cl (show Int64.ofInt (-1 : Int) = _ from by decide) ?_)
    obtain ⟨rfl, rfl, rfl, rfl, rfl⟩ := ou5 hf
    rw [hQ]
    exact W.lret hx hb hr (fun t ht hW => ⟨⟨_, (), rfl, rfl, by rw [ht]; exact hP, va_K.moved hW.alike hK, hD⟩, hS.F ht⟩) hS.2.2 dX11_lasts_20
  ·
    replace hf := ite_f (fun h9 => cc ((z_lt0 hr0).mpr h9)) hf
    clear cc
    refine lv_iload_n hx hb dX11_lasts_4 rfl (lv_at hl 1 rfl) ?_
    refine lv_bipush (v := Int32.ofInt (10 : Int)) hx hb dX11_lasts_5 (by decide) ?_
    refine lv_icmp_gt (tgt := 17) hx hb dX11_lasts_7 (by decide) (fun cc => ?_) (fun cc => ?_)
    ·
      replace hf := ite_t ((z_lt (by decide) hr0).mp cc) hf
      clear cc
      refine lv_ldc2 (v := (-1 : Int64)) hx hb hown (hts _ mwX11_lasts_0) dX11_lasts_17 (z_cl (show Int64.ofInt (-1 : Int) = _ from by decide) ?_)
      obtain ⟨rfl, rfl, rfl, rfl, rfl⟩ := ou5 hf
      rw [hQ]
      exact W.lret hx hb hr (fun t ht hW => ⟨⟨_, (), rfl, rfl, by rw [ht]; exact hP, va_K.moved hW.alike hK, hD⟩, hS.F ht⟩) hS.2.2 dX11_lasts_20
    ·
      replace hf := ite_f (fun h9 => cc ((z_lt (by decide) hr0).mpr h9)) hf
      clear cc
      refine lv_iload_n hx hb dX11_lasts_10 rfl (lv_at hl 2 rfl) ?_
      have hq := bd1_s hf
      clear hf
      obtain ⟨z2, hcall, hf⟩ := hq
      refine gnI (va_runS (As := [.int (Int32.ofInt x2)]) (rest := []) ⟨hx, hb, hml, hown, hts⟩ (c_X11_isPart (l := l) (D := D) (G := G) (sz := H.size) (x0 := x2) (r := z2) (hf := hcall)) (va_cwS 1 hts gX11_lasts_X11_isPart rfl rfl rfl (by decide +kernel) ⟨Nat.le_of_ble_eq_true rfl, Nat.le_of_ble_eq_true rfl⟩) (preG_S (hP.sub [] rfl) (hD.sub [] rfl rfl) hK) rfl rfl hl.1 rfl (lv_room (Nat.le_of_ble_eq_true rfl)) dX11_lasts_11 ⟨Nat.le_of_ble_eq_true rfl, Nat.le_of_ble_eq_true rfl⟩) hP hD hS hA [] rfl (fun H locs hP hD hS => ?_)
      clear hcall
      have hr2 := ck_c hf
      replace hf := ck_r hf
      refine lv_if_ne (tgt := 21) hx hb dX11_lasts_14 (by decide) (fun cc => ?_) (fun cc => ?_)
      ·
        replace hf := ite_f (fun h9 => cc ((z_eq0 hr2).mpr h9)) hf
        clear cc
        refine lv_aload_n hx hb dX11_lasts_21 rfl (lv_at hl 0 rfl) ?_
        refine va_get (D := D) (ci := 11) (v := .ref a_p0_rules) (C := RX11) (T := TX11) (N := 15) hx hb hts inX11_lasts_X11 hown hK hP 0 rfl rfl 0 (by decide) (hts _ mwX11_lasts_2) (fun _ h9 => h9) rfl dX11_lasts_22 ?_
        refine va_get (D := D) (ci := 6) (v := .int (Int32.ofInt i_p0_rules_stirs)) (C := RX6) (T := TX6) (N := 7) hx hb hts inX11_lasts_X6 hown hK hP 1 rfl rfl 1 (by decide) (hts _ mwX11_lasts_4) (fun _ h9 => h9) rfl dX11_lasts_25 ?_
        have hr3 := ck_c hf
        replace hf := ck_r hf
        refine lv_if_ne (tgt := 35) hx hb dX11_lasts_28 (by decide) (fun cc => ?_) (fun cc => ?_)
        ·
          replace hf := ite_f (fun h9 => cc ((z_eq0 hr3).mpr h9)) hf
          clear cc
          refine lv_aload_n hx hb dX11_lasts_35 rfl (lv_at hl 0 rfl) ?_
          refine va_get (D := D) (ci := 11) (v := .ref a_p0_luck) (C := RX11) (T := TX11) (N := 15) hx hb hts inX11_lasts_X11 hown hK hP 0 rfl rfl 5 (by decide) (hts _ mwX11_lasts_5) (fun _ h9 => h9) rfl dX11_lasts_36 ?_
          refine lv_iload_n hx hb dX11_lasts_39 rfl (lv_at hl 1 rfl) ?_
          have hq := bd5_s hf
          clear hf
          obtain ⟨z5, w6, w7, w8, w9, hcall, hf⟩ := hq
          refine gcL (ws' := [(a_p0, .inr (11, [.ref a_p0_rules, .ref a_p0_state, .ref a_p0_tape, .ref a_p0_reader, .ref a_p0_kitchen, .ref a_p0_luck, .ref a_p0_plans, .ref a_p0_coups, .ref a_p0_past, .ref a_p0_fairDays, .ref a_p0_images, .ref a_p0_imageHeld, .ref a_p0_sheets, .int (Int32.ofInt i_p0_latestFault), .int (Int32.ofInt i_p0_latestTear)])), (a_p0_rules, .inr (6, [.int (Int32.ofInt i_p0_rules_seats), .int (Int32.ofInt i_p0_rules_stirs), .ref a_p0_rules_need, .ref a_p0_rules_kind, .ref a_p0_rules_first, .ref a_p0_rules_second, .ref a_p0_rules_after])), (a_p0_rules_after, .inl (G 1, 35, .inl (zA v_p0_rules_after))), (a_p0_state, .inr (8, [.ref a_p0_state_pieces, .ref a_p0_state_friends, .ref a_p0_state_spoons, .ref a_p0_state_eaten, .ref a_p0_state_seen, .int (Int32.ofInt i_p0_state_seenDays), .int (Int32.ofInt i_p0_state_bone), .int (Int32.ofInt i_p0_state_king), .int (Int32.ofInt i_p0_state_days)])), (a_p0_state_friends, .inl (G 1, 7, .inl (zA v_p0_state_friends))), (a_p0_kitchen, .inr (2, [.ref a_p0_rules, .ref a_p0_state, .ref a_p0_kitchen_places, .ref a_p0_kitchen_holders, .ref a_p0_kitchen_stirred])), (a_p0_kitchen_places, .inl (G 1, 49, .inl (zA w6))), (a_p0_kitchen_holders, .inl (G 1, 49, .inl (zA w7))), (a_p0_luck, .inr (3, [.ref a_p0_kitchen, .ref a_p0_luck_rows, .ref a_p0_luck_later, .ref a_p0_luck_finds])), (a_p0_luck_rows, .inl (G 2, 49, .inr (.inl (zL w8)))), (a_p0_luck_later, .inl (G 2, 49, .inr (.inl (zL w9))))]) (va_runV (As := [.int (Int32.ofInt x1)]) (rest := []) ⟨hx, hb, hml, hown, hts⟩ (c_X3_rowsOfReign (l := l) (D := D) (G := G) (sz := H.size) (a_p0 := a_p0_luck) (a_p0_kitchen := a_p0_kitchen) (a_p0_rows := a_p0_luck_rows) (a_p0_later := a_p0_luck_later) (a_p0_finds := a_p0_luck_finds) (a_p0_kitchen_rules := a_p0_rules) (a_p0_kitchen_state := a_p0_state) (a_p0_kitchen_places := a_p0_kitchen_places) (a_p0_kitchen_holders := a_p0_kitchen_holders) (a_p0_kitchen_stirred := a_p0_kitchen_stirred) (a_p0_kitchen_rules_need := a_p0_rules_need) (a_p0_kitchen_rules_kind := a_p0_rules_kind) (a_p0_kitchen_rules_first := a_p0_rules_first) (a_p0_kitchen_rules_second := a_p0_rules_second) (a_p0_kitchen_rules_after := a_p0_rules_after) (a_p0_kitchen_state_pieces := a_p0_state_pieces) (a_p0_kitchen_state_friends := a_p0_state_friends) (a_p0_kitchen_state_spoons := a_p0_state_spoons) (a_p0_kitchen_state_eaten := a_p0_state_eaten) (a_p0_kitchen_state_seen := a_p0_state_seen) (i_p0_kitchen_rules_seats := i_p0_rules_seats) (i_p0_kitchen_rules_stirs := i_p0_rules_stirs) (v_p0_kitchen_rules_after := v_p0_rules_after) (i_p0_kitchen_state_seenDays := i_p0_state_seenDays) (i_p0_kitchen_state_bone := i_p0_state_bone) (i_p0_kitchen_state_king := i_p0_state_king) (i_p0_kitchen_state_days := i_p0_state_days) (v_p0_kitchen_state_friends := v_p0_state_friends) (v_p0_kitchen_places := v_p0_kitchen_places) (v_p0_kitchen_holders := v_p0_kitchen_holders) (v_p0_rows := v_p0_luck_rows) (v_p0_later := v_p0_luck_later) (x1 := x1) (r := z5) (o_v_p0_kitchen_places := w6) (o_v_p0_kitchen_holders := w7) (o_v_p0_rows := w8) (o_v_p0_later := w9) (hf := hcall)) (cwV 1 hts gX11_lasts_X3_rowsOfReign rfl rfl rfl hdV_yX3_rowsOfReign_RX3 ⟨Nat.le_of_ble_eq_true rfl, Nat.le_of_ble_eq_true rfl⟩) (preG_V (ci := 3) (q := (RX3, TX3, 4)) (hP.sub [8, 5, 1, 2, 3, 4, 6, 7, 9, 10] rfl) (hD.sub [8, 5, 1, 2, 3, 4, 6, 7, 9, 10] rfl rfl) hK rfl rfl) rfl rfl hl.1 rfl (lv_room (Nat.le_of_ble_eq_true rfl)) dX11_lasts_40 ⟨Nat.le_of_ble_eq_true rfl, Nat.le_of_ble_eq_true rfl⟩) hP hD hS hA [8, 5, 1, 2, 3, 4, 6, 7, 9, 10] [0] [0, 3, 4, 5, 6, 2, 7, 8, 1, 9, 10] rfl rfl rfl (by decide) rfl rfl rfl (fun H locs hP hD hS => ?_)
          clear hcall
          refine lv_aload_n hx hb dX11_lasts_43 rfl (lv_at hl 0 rfl) ?_
          refine va_get (D := D) (ci := 11) (v := .ref a_p0_rules) (C := RX11) (T := TX11) (N := 15) hx hb hts inX11_lasts_X11 hown hK hP 0 rfl rfl 0 (by decide) (hts _ mwX11_lasts_2) (fun _ h9 => h9) rfl dX11_lasts_44 ?_
          refine va_get (D := D) (ci := 6) (v := .int (Int32.ofInt i_p0_rules_stirs)) (C := RX6) (T := TX6) (N := 7) hx hb hts inX11_lasts_X6 hown hK hP 1 rfl rfl 1 (by decide) (hts _ mwX11_lasts_4) (fun _ h9 => h9) rfl dX11_lasts_47 ?_
          refine lv_iload_n hx hb dX11_lasts_50 rfl (lv_at hl 1 rfl) ?_
          have hq := bd1_s hf
          clear hf
          obtain ⟨z10, hcall, hf⟩ := hq
          refine gnL (va_runS (As := [.int (Int32.ofInt i_p0_rules_stirs), .int (Int32.ofInt x1)]) (rest := [.long (Int64.ofInt z5)]) ⟨hx, hb, hml, hown, hts⟩ (c_X3_power (l := l) (D := D) (G := G) (sz := H.size) (x0 := i_p0_rules_stirs) (x1 := x1) (r := z10) (hf := hcall)) (va_cwS 2 hts gX11_lasts_X3_power rfl rfl rfl (by decide +kernel) ⟨Nat.le_of_ble_eq_true rfl, Nat.le_of_ble_eq_true rfl⟩) (preG_S (hP.sub [] rfl) (hD.sub [] rfl rfl) hK) rfl rfl hl.1 rfl (lv_room (Nat.le_of_ble_eq_true rfl)) dX11_lasts_51 ⟨Nat.le_of_ble_eq_true rfl, Nat.le_of_ble_eq_true rfl⟩) hP hD hS hA [] rfl (fun H locs hP hD hS => ?_)
          clear hcall
          refine lv_iload_n hx hb dX11_lasts_54 rfl (lv_at hl 2 rfl) ?_
          have hq := bd1_s hf
          clear hf
          obtain ⟨z11, hcall, hf⟩ := hq
          refine gnL (va_runS (As := [.long (Int64.ofInt z5), .long (Int64.ofInt z10), .int (Int32.ofInt x2)]) (rest := []) ⟨hx, hb, hml, hown, hts⟩ (c_X3_part (l := l) (D := D) (G := G) (sz := H.size) (x0 := z5) (x2 := z10) (x4 := x2) (r := z11) (hf := hcall)) (va_cwS 3 hts gX11_lasts_X3_part rfl rfl rfl (by decide +kernel) ⟨Nat.le_of_ble_eq_true rfl, Nat.le_of_ble_eq_true rfl⟩) (preG_S (hP.sub [] rfl) (hD.sub [] rfl rfl) hK) rfl rfl hl.1 rfl (lv_room (Nat.le_of_ble_eq_true rfl)) dX11_lasts_55 ⟨Nat.le_of_ble_eq_true rfl, Nat.le_of_ble_eq_true rfl⟩) hP hD hS hA [] rfl (fun H locs hP hD hS => ?_)
          clear hcall
          obtain ⟨rfl, rfl, rfl, rfl, rfl⟩ := ou5 hf
          rw [hQ]
          exact W.lret hx hb hr (fun t ht hW => ⟨⟨_, (), rfl, rfl, by rw [ht]; exact hP, va_K.moved hW.alike hK, hD⟩, hS.F ht⟩) hS.2.2 dX11_lasts_58
        ·
          replace hf := ite_t ((z_eq0 hr3).mp cc) hf
          clear cc
          refine lv_ldc2 (v := (-2 : Int64)) hx hb hown (hts _ mwX11_lasts_7) dX11_lasts_31 (z_cl (show Int64.ofInt (-2 : Int) = _ from by decide) ?_)
          obtain ⟨rfl, rfl, rfl, rfl, rfl⟩ := ou5 hf
          rw [hQ]
          exact W.lret hx hb hr (fun t ht hW => ⟨⟨_, (), rfl, rfl, by rw [ht]; exact hP, va_K.moved hW.alike hK, hD⟩, hS.F ht⟩) hS.2.2 dX11_lasts_34
      ·
        replace hf := ite_t ((z_eq0 hr2).mp cc) hf
        clear cc
        refine lv_ldc2 (v := (-1 : Int64)) hx hb hown (hts _ mwX11_lasts_0) dX11_lasts_17 (z_cl (show Int64.ofInt (-1 : Int) = _ from by decide) ?_)
        obtain ⟨rfl, rfl, rfl, rfl, rfl⟩ := ou5 hf
        rw [hQ]
        exact W.lret hx hb hr (fun t ht hW => ⟨⟨_, (), rfl, rfl, by rw [ht]; exact hP, va_K.moved hW.alike hK, hD⟩, hS.F ht⟩) hS.2.2 dX11_lasts_20

noncomputable def f_X11_isRowQuestion (x0 : Int) (x1 : Int) : Option (Int) := (ck (z_r32 x0) (if x0 = (0 : Int) then (some (1 : Int)) else (if x0 < (10 : Int) then (some (0 : Int)) else (ck (z_r32 ((10 : Int) + x1)) (if ((10 : Int) + x1) ≤ x0 then (some (0 : Int)) else (some (1 : Int)))))))
abbrev rm_X11_isRowQuestion : Room := { frames := 0, cells := 0, slots := 0, locals := 0 }
set_option maxHeartbeats 8000000 in
set_option maxRecDepth 100000 in
theorem c_X11_isRowQuestion (l : Launch) (D : va_G) (G : Nat → ClassId) (sz : Nat) (x0 : Int) (x1 : Int) (r : Int) (hf : f_X11_isRowQuestion x0 x1 = some r) : Met l yX11_isRowQuestion wsX11_isRowQuestion rm_X11_isRowQuestion (pcG D G [.int (Int32.ofInt x0), .int (Int32.ofInt x1)] sz []) (qcI D G (Int32.ofInt r) [] (va_A [] sz)) 0 0 (va_A [] sz) := by
  refine Met.ofW (cc := cX11_isRowQuestion) (maxL := 2) (ret := (some .boolean)) (by decide) rfl ?_
  intro p e s m args below meth c s₁ B hml hv
  obtain ⟨rfl, hsz, hP, hK, hD0⟩ := hv
  have hx := B.exec
  have hb := B.bytes
  have hr := B.returns
  have hts := atoms_spec (ws := wsX11_isRowQuestion) B.pre
  have hown : s.vm.findClass RX11 = some m.cls := findClass_of_methodNamed B.named
  have hlocks := B.notSynchronized
  subst hsz
  have hD := hD0.self (sz := s.heap.size)
  generalize hAe : va_A [] s.heap.size = A at hD ⊢
  have hA : ∀ q : Nat, s.heap.size ≤ q → A q := fun q h => by rw [← hAe]; exact Or.inr h
  clear hAe hD0
  have hS : va_S A s.heap s.heap [] := va_S.rf
  have hl := lv_entry ([.int (Int32.ofInt x0), .int (Int32.ofInt x1)]) (n := 2) (Nat.le_of_ble_eq_true rfl)
  rw [lg_entry_eq]
  generalize (lg_sl ([.int (Int32.ofInt x0), .int (Int32.ofInt x1)]) ++ List.replicate (2 - (lg_sl ([.int (Int32.ofInt x0), .int (Int32.ofInt x1)])).length) Slot.unset).toArray = ls at hl ⊢
  have hl : lv_has ls 2 [(0, .int (Int32.ofInt x0)), (1, .int (Int32.ofInt x1))] := hl
  refine W_nameQ (fun Q hQ => ?_)
  obtain ⟨H, hH⟩ : ∃ H, H = s.heap := ⟨_, rfl⟩
  replace hS : va_S A s.heap H [] := by rw [hH]; exact hS
  replace hP : va_P D vwCl [] H := by rw [hH]; exact hP
  rw [← hH]
  clear hH
  unfold f_X11_isRowQuestion at hf
  refine lv_iload_n hx hb dX11_isRowQuestion_0 rfl (lv_at hl 0 rfl) ?_
  have hr0 := ck_c hf
  replace hf := ck_r hf
  refine lv_if_eq (tgt := 18) hx hb dX11_isRowQuestion_1 (by decide) (fun cc => ?_) (fun cc => ?_)
  ·
    replace hf := ite_t ((z_eq0 hr0).mp cc) hf
    clear cc
    refine lv_iconst (v := Int32.ofInt (1 : Int)) hx hb dX11_isRowQuestion_18 (by decide) ?_
    refine lv_goto (tgt := 23) hx hb dX11_isRowQuestion_19 (by decide) ?_
    obtain rfl := ou1 hf
    rw [hQ]
    exact W.zret hx hb hr rfl (fun t ht hW => ⟨⟨_, (), rfl, rfl, by rw [ht]; exact hP, va_K.moved hW.alike hK, hD⟩, hS.F ht⟩) hS.2.2 dX11_isRowQuestion_23
  ·
    replace hf := ite_f (fun h9 => cc ((z_eq0 hr0).mpr h9)) hf
    clear cc
    refine lv_iload_n hx hb dX11_isRowQuestion_4 rfl (lv_at hl 0 rfl) ?_
    refine lv_bipush (v := Int32.ofInt (10 : Int)) hx hb dX11_isRowQuestion_5 (by decide) ?_
    refine lv_icmp_lt (tgt := 22) hx hb dX11_isRowQuestion_7 (by decide) (fun cc => ?_) (fun cc => ?_)
    ·
      replace hf := ite_t ((z_lt hr0 (by decide)).mp cc) hf
      clear cc
      refine lv_iconst (v := Int32.ofInt (0 : Int)) hx hb dX11_isRowQuestion_22 (by decide) ?_
      obtain rfl := ou1 hf
      rw [hQ]
      exact W.zret hx hb hr rfl (fun t ht hW => ⟨⟨_, (), rfl, rfl, by rw [ht]; exact hP, va_K.moved hW.alike hK, hD⟩, hS.F ht⟩) hS.2.2 dX11_isRowQuestion_23
    ·
      replace hf := ite_f (fun h9 => cc ((z_lt hr0 (by decide)).mpr h9)) hf
      clear cc
      refine lv_iload_n hx hb dX11_isRowQuestion_10 rfl (lv_at hl 0 rfl) ?_
      refine lv_bipush (v := Int32.ofInt (10 : Int)) hx hb dX11_isRowQuestion_11 (by decide) ?_
      refine lv_iload_n hx hb dX11_isRowQuestion_13 rfl (lv_at hl 1 rfl) ?_
      refine lv_iadd hx hb dX11_isRowQuestion_14 (z_ci (Int32.ofInt_add (10 : Int) x1) ?_)
      have hr1 := ck_c hf
      replace hf := ck_r hf
      refine lv_icmp_ge (tgt := 22) hx hb dX11_isRowQuestion_15 (by decide) (fun cc => ?_) (fun cc => ?_)
      ·
        replace hf := ite_t ((z_le hr1 hr0).mp cc) hf
        clear cc
        refine lv_iconst (v := Int32.ofInt (0 : Int)) hx hb dX11_isRowQuestion_22 (by decide) ?_
        obtain rfl := ou1 hf
        rw [hQ]
        exact W.zret hx hb hr rfl (fun t ht hW => ⟨⟨_, (), rfl, rfl, by rw [ht]; exact hP, va_K.moved hW.alike hK, hD⟩, hS.F ht⟩) hS.2.2 dX11_isRowQuestion_23
      ·
        replace hf := ite_f (fun h9 => cc ((z_le hr1 hr0).mpr h9)) hf
        clear cc
        refine lv_iconst (v := Int32.ofInt (1 : Int)) hx hb dX11_isRowQuestion_18 (by decide) ?_
        refine lv_goto (tgt := 23) hx hb dX11_isRowQuestion_19 (by decide) ?_
        obtain rfl := ou1 hf
        rw [hQ]
        exact W.zret hx hb hr rfl (fun t ht hW => ⟨⟨_, (), rfl, rfl, by rw [ht]; exact hP, va_K.moved hW.alike hK, hD⟩, hS.F ht⟩) hS.2.2 dX11_isRowQuestion_23

noncomputable def f_X11_ofRow (n_p0 : Nat) (v_p0 : (Int → Int)) (x1 : Int) (x2 : Int) : Option (Int) := (ck (z_r32 x2) (if x2 < (0 : Int) then (some (-4 : Int)) else (ck (z_r32 x1) (if x1 ≤ x2 then (some (-4 : Int)) else (ck (z_r32 ((n_p0 : Nat) : Int)) (if ((n_p0 : Nat) : Int) ≤ x2 then (some (-4 : Int)) else (ck (z_ix x2 n_p0) (some (v_p0 x2)))))))))
abbrev rm_X11_ofRow : Room := { frames := 0, cells := 0, slots := 0, locals := 0 }
set_option maxHeartbeats 8000000 in
set_option maxRecDepth 100000 in
theorem c_X11_ofRow (l : Launch) (D : va_G) (G : Nat → ClassId) (sz : Nat) (a_p0 : Nat) (n_p0 : Nat) (v_p0 : (Int → Int)) (x1 : Int) (x2 : Int) (r : Int) (hf : f_X11_ofRow n_p0 v_p0 x1 x2 = some r) : Met l yX11_ofRow wsX11_ofRow rm_X11_ofRow (pcG D G [.ref a_p0, .int (Int32.ofInt x1), .int (Int32.ofInt x2)] sz [(a_p0, .inl (G 1, n_p0, .inl (zA v_p0)))]) (qcI D G (Int32.ofInt r) [(a_p0, .inl (G 1, n_p0, .inl (zA v_p0)))] (va_A [(a_p0, .inl (G 1, n_p0, .inl (zA v_p0)))] sz)) 0 0 (va_A [(a_p0, .inl (G 1, n_p0, .inl (zA v_p0)))] sz) := by
  refine Met.ofW (cc := cX11_ofRow) (maxL := 3) (ret := (some .int)) (by decide) rfl ?_
  intro p e s m args below meth c s₁ B hml hv
  obtain ⟨rfl, hsz, hP, hK, hD0⟩ := hv
  have hx := B.exec
  have hb := B.bytes
  have hr := B.returns
  have hts := atoms_spec (ws := wsX11_ofRow) B.pre
  have hown : s.vm.findClass RX11 = some m.cls := findClass_of_methodNamed B.named
  have hlocks := B.notSynchronized
  subst hsz
  have hD := hD0.self (sz := s.heap.size)
  generalize hAe : va_A [(a_p0, .inl (G 1, n_p0, .inl (zA v_p0)))] s.heap.size = A at hD ⊢
  have hA : ∀ q : Nat, s.heap.size ≤ q → A q := fun q h => by rw [← hAe]; exact Or.inr h
  clear hAe hD0
  have hS : va_S A s.heap s.heap [] := va_S.rf
  have hl := lv_entry ([.ref a_p0, .int (Int32.ofInt x1), .int (Int32.ofInt x2)]) (n := 3) (Nat.le_of_ble_eq_true rfl)
  rw [lg_entry_eq]
  generalize (lg_sl ([.ref a_p0, .int (Int32.ofInt x1), .int (Int32.ofInt x2)]) ++ List.replicate (3 - (lg_sl ([.ref a_p0, .int (Int32.ofInt x1), .int (Int32.ofInt x2)])).length) Slot.unset).toArray = ls at hl ⊢
  have hl : lv_has ls 3 [(0, .ref a_p0), (1, .int (Int32.ofInt x1)), (2, .int (Int32.ofInt x2))] := hl
  refine W_nameQ (fun Q hQ => ?_)
  obtain ⟨H, hH⟩ : ∃ H, H = s.heap := ⟨_, rfl⟩
  replace hS : va_S A s.heap H [] := by rw [hH]; exact hS
  replace hP : va_P D vwCl [(a_p0, .inl (G 1, n_p0, .inl (zA v_p0)))] H := by rw [hH]; exact hP
  rw [← hH]
  clear hH
  unfold f_X11_ofRow at hf
  refine lv_iload_n hx hb dX11_ofRow_0 rfl (lv_at hl 2 rfl) ?_
  have hr0 := ck_c hf
  replace hf := ck_r hf
  refine lv_if_lt (tgt := 21) hx hb dX11_ofRow_1 (by decide) (fun cc => ?_) (fun cc => ?_)
  ·
    replace hf := ite_t ((z_lt0 hr0).mp cc) hf
    clear cc
    refine lv_bipush (v := Int32.ofInt (-4 : Int)) hx hb dX11_ofRow_21 (by decide) ?_
    obtain rfl := ou1 hf
    rw [hQ]
    exact W.iret hx hb hr (fun t ht hW => ⟨⟨_, (), rfl, rfl, by rw [ht]; exact hP, va_K.moved hW.alike hK, hD⟩, hS.F ht⟩) hS.2.2 dX11_ofRow_23
  ·
    replace hf := ite_f (fun h9 => cc ((z_lt0 hr0).mpr h9)) hf
    clear cc
    refine lv_iload_n hx hb dX11_ofRow_4 rfl (lv_at hl 2 rfl) ?_
    refine lv_iload_n hx hb dX11_ofRow_5 rfl (lv_at hl 1 rfl) ?_
    have hr1 := ck_c hf
    replace hf := ck_r hf
    refine lv_icmp_ge (tgt := 21) hx hb dX11_ofRow_6 (by decide) (fun cc => ?_) (fun cc => ?_)
    ·
      replace hf := ite_t ((z_le hr1 hr0).mp cc) hf
      clear cc
      refine lv_bipush (v := Int32.ofInt (-4 : Int)) hx hb dX11_ofRow_21 (by decide) ?_
      obtain rfl := ou1 hf
      rw [hQ]
      exact W.iret hx hb hr (fun t ht hW => ⟨⟨_, (), rfl, rfl, by rw [ht]; exact hP, va_K.moved hW.alike hK, hD⟩, hS.F ht⟩) hS.2.2 dX11_ofRow_23
    ·
      replace hf := ite_f (fun h9 => cc ((z_le hr1 hr0).mpr h9)) hf
      clear cc
      refine lv_iload_n hx hb dX11_ofRow_9 rfl (lv_at hl 2 rfl) ?_
      refine lv_aload_n hx hb dX11_ofRow_10 rfl (lv_at hl 0 rfl) ?_
      refine va_alen (v := Int32.ofInt ((n_p0 : Nat) : Int)) hx hb hK hP 0 1 rfl rfl (z_len _) dX11_ofRow_11 ?_
      have hr2 := ck_c hf
      replace hf := ck_r hf
      refine lv_icmp_ge (tgt := 21) hx hb dX11_ofRow_12 (by decide) (fun cc => ?_) (fun cc => ?_)
      ·
        replace hf := ite_t ((z_le hr2 hr0).mp cc) hf
        clear cc
        refine lv_bipush (v := Int32.ofInt (-4 : Int)) hx hb dX11_ofRow_21 (by decide) ?_
        obtain rfl := ou1 hf
        rw [hQ]
        exact W.iret hx hb hr (fun t ht hW => ⟨⟨_, (), rfl, rfl, by rw [ht]; exact hP, va_K.moved hW.alike hK, hD⟩, hS.F ht⟩) hS.2.2 dX11_ofRow_23
      ·
        replace hf := ite_f (fun h9 => cc ((z_le hr2 hr0).mpr h9)) hf
        clear cc
        refine lv_aload_n hx hb dX11_ofRow_15 rfl (lv_at hl 0 rfl) ?_
        refine lv_iload_n hx hb dX11_ofRow_16 rfl (lv_at hl 2 rfl) ?_
        have hc := ck_c hf
        replace hf := ck_r hf
        refine va_iald hx hb hK hP 0 1 rfl rfl (z_ix_in hc) dX11_ofRow_17 (z_ci (z_ald v_p0 hc) ?_)
        clear hc
        refine lv_goto (tgt := 23) hx hb dX11_ofRow_18 (by decide) ?_
        obtain rfl := ou1 hf
        rw [hQ]
        exact W.iret hx hb hr (fun t ht hW => ⟨⟨_, (), rfl, rfl, by rw [ht]; exact hP, va_K.moved hW.alike hK, hD⟩, hS.F ht⟩) hS.2.2 dX11_ofRow_23

noncomputable def f_X11_reign (i_p0_rules_seats : Int) (i_p0_rules_stirs : Int) (v_p0_rules_after : (Int → Int)) (i_p0_state_bone : Int) (i_p0_state_king : Int) (v_p0_state_friends : (Int → Int)) (v_p0_kitchen_places : (Int → Int)) (v_p0_kitchen_holders : (Int → Int)) (v_p0_plans_good : (Int → Int)) (v_p0_plans_row : (Int → Int)) (x1 : Int) (x2 : Int) : Option (Int × (Int → Int) × (Int → Int) × (Int → Int) × (Int → Int)) := (ck (z_r32 x1) (if x1 < (1 : Int) then (some ((-1 : Int), v_p0_kitchen_places, v_p0_kitchen_holders, v_p0_plans_good, v_p0_plans_row)) else (if (10 : Int) < x1 then (some ((-1 : Int), v_p0_kitchen_places, v_p0_kitchen_holders, v_p0_plans_good, v_p0_plans_row)) else (bd1 (f_X11_isRowQuestion x2 (10 : Int)) (fun (z2 : Int) => (ck (z_r32 z2) (if z2 = (0 : Int) then (some ((-1 : Int), v_p0_kitchen_places, v_p0_kitchen_holders, v_p0_plans_good, v_p0_plans_row)) else (ck (z_r32 i_p0_rules_stirs) (if i_p0_rules_stirs = (0 : Int) then (some ((-2 : Int), v_p0_kitchen_places, v_p0_kitchen_holders, v_p0_plans_good, v_p0_plans_row)) else (bd5 (f_X5_planReign i_p0_rules_seats i_p0_rules_stirs v_p0_rules_after i_p0_state_bone i_p0_state_king v_p0_state_friends v_p0_kitchen_places v_p0_kitchen_holders v_p0_plans_good v_p0_plans_row x1) (fun (z5 : Int) (w6 : (Int → Int)) (w7 : (Int → Int)) (w8 : (Int → Int)) (w9 : (Int → Int)) => (bnd z5 (fun (z10 : Int) => (ck (z_r32 x2) (if x2 = (0 : Int) then (some (z10, w6, w7, w8, w9)) else (bd1 (f_X11_ofRow 10 w9 z10 (x2 - (10 : Int))) (fun (z12 : Int) => (some (z12, w6, w7, w8, w9)))))))))))))))))))
abbrev rm_X11_reign : Room := { frames := 4, cells := 0, slots := 0, locals := 100 }
theorem inX11_reign_X11 : ∀ w ∈ wsX110, w ∈ wsX11_reign := by first | exact fun w h => List.mem_cons_of_mem _ (List.mem_append_left _ (List.mem_append_left _ (List.mem_append_left _ (List.mem_append_left _ (List.mem_append_right _ h))))) | decide +kernel
theorem mwX11_reign_1 : Cond.fieldLink RX11 10 "LadleKings" "rules" "LLadleKings$Rules;" ∈ wsX11_reign := by first | exact List.mem_of_getElem? (i := 1) rfl | decide +kernel
theorem inX11_reign_X6 : ∀ w ∈ wsX60, w ∈ wsX11_reign := by first | exact fun w h => List.mem_cons_of_mem _ (List.mem_append_left _ (List.mem_append_left _ (List.mem_append_left _ (List.mem_append_right _ h)))) | decide +kernel
theorem mwX11_reign_3 : Cond.fieldLink RX11 133 "LadleKings$Rules" "stirs" "I" ∈ wsX11_reign := by first | exact List.mem_of_getElem? (i := 2) rfl | decide +kernel
theorem mwX11_reign_4 : Cond.fieldLink RX11 60 "LadleKings" "plans" "LLadleKings$Plans;" ∈ wsX11_reign := by first | exact List.mem_of_getElem? (i := 3) rfl | decide +kernel
theorem hdV_yX5_planReign_RX5 : yX5_planReign.cls = RX5 ∧ yX5_planReign.cls ≠ "java/lang/invoke/MethodHandle" ∧ yX5_planReign.cls ≠ "java/lang/invoke/VarHandle" ∧ (parseMethodDescriptor yX5_planReign.desc).map (fun d => d.parameters.length) = some 1 := by decide +kernel
theorem inX11_reign_X5 : ∀ w ∈ wsX50, w ∈ wsX11_reign := by first | exact fun w h => List.mem_cons_of_mem _ (List.mem_append_left _ (List.mem_append_left _ (List.mem_append_right _ h))) | decide +kernel
theorem mwX11_reign_7 : Cond.fieldLink RX11 228 "LadleKings$Plans" "row" "[I" ∈ wsX11_reign := by first | exact List.mem_of_getElem? (i := 4) rfl | decide +kernel
set_option maxHeartbeats 8000000 in
set_option maxRecDepth 100000 in
theorem c_X11_reign (l : Launch) (D : va_G) (G : Nat → ClassId) (sz : Nat) (a_p0 : Nat) (a_p0_rules : Nat) (a_p0_state : Nat) (a_p0_tape : Nat) (a_p0_reader : Nat) (a_p0_kitchen : Nat) (a_p0_luck : Nat) (a_p0_plans : Nat) (a_p0_coups : Nat) (a_p0_past : Nat) (a_p0_fairDays : Nat) (a_p0_images : Nat) (a_p0_imageHeld : Nat) (a_p0_sheets : Nat) (a_p0_rules_need : Nat) (a_p0_rules_kind : Nat) (a_p0_rules_first : Nat) (a_p0_rules_second : Nat) (a_p0_rules_after : Nat) (a_p0_state_pieces : Nat) (a_p0_state_friends : Nat) (a_p0_state_spoons : Nat) (a_p0_state_eaten : Nat) (a_p0_state_seen : Nat) (a_p0_kitchen_places : Nat) (a_p0_kitchen_holders : Nat) (a_p0_kitchen_stirred : Nat) (a_p0_plans_good : Nat) (a_p0_plans_row : Nat) (i_p0_latestFault : Int) (i_p0_latestTear : Int) (i_p0_rules_seats : Int) (i_p0_rules_stirs : Int) (v_p0_rules_after : (Int → Int)) (i_p0_state_seenDays : Int) (i_p0_state_bone : Int) (i_p0_state_king : Int) (i_p0_state_days : Int) (v_p0_state_friends : (Int → Int)) (v_p0_kitchen_places : (Int → Int)) (v_p0_kitchen_holders : (Int → Int)) (v_p0_plans_good : (Int → Int)) (v_p0_plans_row : (Int → Int)) (x1 : Int) (x2 : Int) (r : Int) (o_v_p0_kitchen_places : (Int → Int)) (o_v_p0_kitchen_holders : (Int → Int)) (o_v_p0_plans_good : (Int → Int)) (o_v_p0_plans_row : (Int → Int)) (hf : f_X11_reign i_p0_rules_seats i_p0_rules_stirs v_p0_rules_after i_p0_state_bone i_p0_state_king v_p0_state_friends v_p0_kitchen_places v_p0_kitchen_holders v_p0_plans_good v_p0_plans_row x1 x2 = some (r, o_v_p0_kitchen_places, o_v_p0_kitchen_holders, o_v_p0_plans_good, o_v_p0_plans_row)) : Met l yX11_reign wsX11_reign rm_X11_reign (pcG D G [.ref a_p0, .int (Int32.ofInt x1), .int (Int32.ofInt x2)] sz [(a_p0, .inr (11, [.ref a_p0_rules, .ref a_p0_state, .ref a_p0_tape, .ref a_p0_reader, .ref a_p0_kitchen, .ref a_p0_luck, .ref a_p0_plans, .ref a_p0_coups, .ref a_p0_past, .ref a_p0_fairDays, .ref a_p0_images, .ref a_p0_imageHeld, .ref a_p0_sheets, .int (Int32.ofInt i_p0_latestFault), .int (Int32.ofInt i_p0_latestTear)])), (a_p0_rules, .inr (6, [.int (Int32.ofInt i_p0_rules_seats), .int (Int32.ofInt i_p0_rules_stirs), .ref a_p0_rules_need, .ref a_p0_rules_kind, .ref a_p0_rules_first, .ref a_p0_rules_second, .ref a_p0_rules_after])), (a_p0_rules_after, .inl (G 1, 35, .inl (zA v_p0_rules_after))), (a_p0_state, .inr (8, [.ref a_p0_state_pieces, .ref a_p0_state_friends, .ref a_p0_state_spoons, .ref a_p0_state_eaten, .ref a_p0_state_seen, .int (Int32.ofInt i_p0_state_seenDays), .int (Int32.ofInt i_p0_state_bone), .int (Int32.ofInt i_p0_state_king), .int (Int32.ofInt i_p0_state_days)])), (a_p0_state_friends, .inl (G 1, 7, .inl (zA v_p0_state_friends))), (a_p0_kitchen, .inr (2, [.ref a_p0_rules, .ref a_p0_state, .ref a_p0_kitchen_places, .ref a_p0_kitchen_holders, .ref a_p0_kitchen_stirred])), (a_p0_kitchen_places, .inl (G 1, 49, .inl (zA v_p0_kitchen_places))), (a_p0_kitchen_holders, .inl (G 1, 49, .inl (zA v_p0_kitchen_holders))), (a_p0_plans, .inr (5, [.ref a_p0_kitchen, .ref a_p0_plans_good, .ref a_p0_plans_row])), (a_p0_plans_good, .inl (G 2, 11, .inr (.inl (zL v_p0_plans_good)))), (a_p0_plans_row, .inl (G 1, 10, .inl (zA v_p0_plans_row)))]) (qcI D G (Int32.ofInt r) [(a_p0, .inr (11, [.ref a_p0_rules, .ref a_p0_state, .ref a_p0_tape, .ref a_p0_reader, .ref a_p0_kitchen, .ref a_p0_luck, .ref a_p0_plans, .ref a_p0_coups, .ref a_p0_past, .ref a_p0_fairDays, .ref a_p0_images, .ref a_p0_imageHeld, .ref a_p0_sheets, .int (Int32.ofInt i_p0_latestFault), .int (Int32.ofInt i_p0_latestTear)])), (a_p0_rules, .inr (6, [.int (Int32.ofInt i_p0_rules_seats), .int (Int32.ofInt i_p0_rules_stirs), .ref a_p0_rules_need, .ref a_p0_rules_kind, .ref a_p0_rules_first, .ref a_p0_rules_second, .ref a_p0_rules_after])), (a_p0_rules_after, .inl (G 1, 35, .inl (zA v_p0_rules_after))), (a_p0_state, .inr (8, [.ref a_p0_state_pieces, .ref a_p0_state_friends, .ref a_p0_state_spoons, .ref a_p0_state_eaten, .ref a_p0_state_seen, .int (Int32.ofInt i_p0_state_seenDays), .int (Int32.ofInt i_p0_state_bone), .int (Int32.ofInt i_p0_state_king), .int (Int32.ofInt i_p0_state_days)])), (a_p0_state_friends, .inl (G 1, 7, .inl (zA v_p0_state_friends))), (a_p0_kitchen, .inr (2, [.ref a_p0_rules, .ref a_p0_state, .ref a_p0_kitchen_places, .ref a_p0_kitchen_holders, .ref a_p0_kitchen_stirred])), (a_p0_kitchen_places, .inl (G 1, 49, .inl (zA o_v_p0_kitchen_places))), (a_p0_kitchen_holders, .inl (G 1, 49, .inl (zA o_v_p0_kitchen_holders))), (a_p0_plans, .inr (5, [.ref a_p0_kitchen, .ref a_p0_plans_good, .ref a_p0_plans_row])), (a_p0_plans_good, .inl (G 2, 11, .inr (.inl (zL o_v_p0_plans_good)))), (a_p0_plans_row, .inl (G 1, 10, .inl (zA o_v_p0_plans_row)))] (va_A [(a_p0, .inr (11, [.ref a_p0_rules, .ref a_p0_state, .ref a_p0_tape, .ref a_p0_reader, .ref a_p0_kitchen, .ref a_p0_luck, .ref a_p0_plans, .ref a_p0_coups, .ref a_p0_past, .ref a_p0_fairDays, .ref a_p0_images, .ref a_p0_imageHeld, .ref a_p0_sheets, .int (Int32.ofInt i_p0_latestFault), .int (Int32.ofInt i_p0_latestTear)])), (a_p0_rules, .inr (6, [.int (Int32.ofInt i_p0_rules_seats), .int (Int32.ofInt i_p0_rules_stirs), .ref a_p0_rules_need, .ref a_p0_rules_kind, .ref a_p0_rules_first, .ref a_p0_rules_second, .ref a_p0_rules_after])), (a_p0_rules_after, .inl (G 1, 35, .inl (zA v_p0_rules_after))), (a_p0_state, .inr (8, [.ref a_p0_state_pieces, .ref a_p0_state_friends, .ref a_p0_state_spoons, .ref a_p0_state_eaten, .ref a_p0_state_seen, .int (Int32.ofInt i_p0_state_seenDays), .int (Int32.ofInt i_p0_state_bone), .int (Int32.ofInt i_p0_state_king), .int (Int32.ofInt i_p0_state_days)])), (a_p0_state_friends, .inl (G 1, 7, .inl (zA v_p0_state_friends))), (a_p0_kitchen, .inr (2, [.ref a_p0_rules, .ref a_p0_state, .ref a_p0_kitchen_places, .ref a_p0_kitchen_holders, .ref a_p0_kitchen_stirred])), (a_p0_kitchen_places, .inl (G 1, 49, .inl (zA v_p0_kitchen_places))), (a_p0_kitchen_holders, .inl (G 1, 49, .inl (zA v_p0_kitchen_holders))), (a_p0_plans, .inr (5, [.ref a_p0_kitchen, .ref a_p0_plans_good, .ref a_p0_plans_row])), (a_p0_plans_good, .inl (G 2, 11, .inr (.inl (zL v_p0_plans_good)))), (a_p0_plans_row, .inl (G 1, 10, .inl (zA v_p0_plans_row)))] sz)) 0 0 (va_A [(a_p0, .inr (11, [.ref a_p0_rules, .ref a_p0_state, .ref a_p0_tape, .ref a_p0_reader, .ref a_p0_kitchen, .ref a_p0_luck, .ref a_p0_plans, .ref a_p0_coups, .ref a_p0_past, .ref a_p0_fairDays, .ref a_p0_images, .ref a_p0_imageHeld, .ref a_p0_sheets, .int (Int32.ofInt i_p0_latestFault), .int (Int32.ofInt i_p0_latestTear)])), (a_p0_rules, .inr (6, [.int (Int32.ofInt i_p0_rules_seats), .int (Int32.ofInt i_p0_rules_stirs), .ref a_p0_rules_need, .ref a_p0_rules_kind, .ref a_p0_rules_first, .ref a_p0_rules_second, .ref a_p0_rules_after])), (a_p0_rules_after, .inl (G 1, 35, .inl (zA v_p0_rules_after))), (a_p0_state, .inr (8, [.ref a_p0_state_pieces, .ref a_p0_state_friends, .ref a_p0_state_spoons, .ref a_p0_state_eaten, .ref a_p0_state_seen, .int (Int32.ofInt i_p0_state_seenDays), .int (Int32.ofInt i_p0_state_bone), .int (Int32.ofInt i_p0_state_king), .int (Int32.ofInt i_p0_state_days)])), (a_p0_state_friends, .inl (G 1, 7, .inl (zA v_p0_state_friends))), (a_p0_kitchen, .inr (2, [.ref a_p0_rules, .ref a_p0_state, .ref a_p0_kitchen_places, .ref a_p0_kitchen_holders, .ref a_p0_kitchen_stirred])), (a_p0_kitchen_places, .inl (G 1, 49, .inl (zA v_p0_kitchen_places))), (a_p0_kitchen_holders, .inl (G 1, 49, .inl (zA v_p0_kitchen_holders))), (a_p0_plans, .inr (5, [.ref a_p0_kitchen, .ref a_p0_plans_good, .ref a_p0_plans_row])), (a_p0_plans_good, .inl (G 2, 11, .inr (.inl (zL v_p0_plans_good)))), (a_p0_plans_row, .inl (G 1, 10, .inl (zA v_p0_plans_row)))] sz) := by
  refine Met.ofW (cc := cX11_reign) (maxL := 4) (ret := (some .int)) (by decide) rfl ?_
  intro p e s m args below meth c s₁ B hml hv
  obtain ⟨rfl, hsz, hP, hK, hD0⟩ := hv
  have hx := B.exec
  have hb := B.bytes
  have hr := B.returns
  have hts := atoms_spec (ws := wsX11_reign) B.pre
  have hown : s.vm.findClass RX11 = some m.cls := findClass_of_methodNamed B.named
  have hlocks := B.notSynchronized
  subst hsz
  have hD := hD0.self (sz := s.heap.size)
  generalize hAe : va_A [(a_p0, .inr (11, [.ref a_p0_rules, .ref a_p0_state, .ref a_p0_tape, .ref a_p0_reader, .ref a_p0_kitchen, .ref a_p0_luck, .ref a_p0_plans, .ref a_p0_coups, .ref a_p0_past, .ref a_p0_fairDays, .ref a_p0_images, .ref a_p0_imageHeld, .ref a_p0_sheets, .int (Int32.ofInt i_p0_latestFault), .int (Int32.ofInt i_p0_latestTear)])), (a_p0_rules, .inr (6, [.int (Int32.ofInt i_p0_rules_seats), .int (Int32.ofInt i_p0_rules_stirs), .ref a_p0_rules_need, .ref a_p0_rules_kind, .ref a_p0_rules_first, .ref a_p0_rules_second, .ref a_p0_rules_after])), (a_p0_rules_after, .inl (G 1, 35, .inl (zA v_p0_rules_after))), (a_p0_state, .inr (8, [.ref a_p0_state_pieces, .ref a_p0_state_friends, .ref a_p0_state_spoons, .ref a_p0_state_eaten, .ref a_p0_state_seen, .int (Int32.ofInt i_p0_state_seenDays), .int (Int32.ofInt i_p0_state_bone), .int (Int32.ofInt i_p0_state_king), .int (Int32.ofInt i_p0_state_days)])), (a_p0_state_friends, .inl (G 1, 7, .inl (zA v_p0_state_friends))), (a_p0_kitchen, .inr (2, [.ref a_p0_rules, .ref a_p0_state, .ref a_p0_kitchen_places, .ref a_p0_kitchen_holders, .ref a_p0_kitchen_stirred])), (a_p0_kitchen_places, .inl (G 1, 49, .inl (zA v_p0_kitchen_places))), (a_p0_kitchen_holders, .inl (G 1, 49, .inl (zA v_p0_kitchen_holders))), (a_p0_plans, .inr (5, [.ref a_p0_kitchen, .ref a_p0_plans_good, .ref a_p0_plans_row])), (a_p0_plans_good, .inl (G 2, 11, .inr (.inl (zL v_p0_plans_good)))), (a_p0_plans_row, .inl (G 1, 10, .inl (zA v_p0_plans_row)))] s.heap.size = A at hD ⊢
  have hA : ∀ q : Nat, s.heap.size ≤ q → A q := fun q h => by rw [← hAe]; exact Or.inr h
  clear hAe hD0
  have hS : va_S A s.heap s.heap [] := va_S.rf
  have hl := lv_entry ([.ref a_p0, .int (Int32.ofInt x1), .int (Int32.ofInt x2)]) (n := 4) (Nat.le_of_ble_eq_true rfl)
  rw [lg_entry_eq]
  generalize (lg_sl ([.ref a_p0, .int (Int32.ofInt x1), .int (Int32.ofInt x2)]) ++ List.replicate (4 - (lg_sl ([.ref a_p0, .int (Int32.ofInt x1), .int (Int32.ofInt x2)])).length) Slot.unset).toArray = ls at hl ⊢
  have hl : lv_has ls 4 [(0, .ref a_p0), (1, .int (Int32.ofInt x1)), (2, .int (Int32.ofInt x2))] := hl
  refine W_nameQ (fun Q hQ => ?_)
  obtain ⟨H, hH⟩ : ∃ H, H = s.heap := ⟨_, rfl⟩
  replace hS : va_S A s.heap H [] := by rw [hH]; exact hS
  replace hP : va_P D vwCl [(a_p0, .inr (11, [.ref a_p0_rules, .ref a_p0_state, .ref a_p0_tape, .ref a_p0_reader, .ref a_p0_kitchen, .ref a_p0_luck, .ref a_p0_plans, .ref a_p0_coups, .ref a_p0_past, .ref a_p0_fairDays, .ref a_p0_images, .ref a_p0_imageHeld, .ref a_p0_sheets, .int (Int32.ofInt i_p0_latestFault), .int (Int32.ofInt i_p0_latestTear)])), (a_p0_rules, .inr (6, [.int (Int32.ofInt i_p0_rules_seats), .int (Int32.ofInt i_p0_rules_stirs), .ref a_p0_rules_need, .ref a_p0_rules_kind, .ref a_p0_rules_first, .ref a_p0_rules_second, .ref a_p0_rules_after])), (a_p0_rules_after, .inl (G 1, 35, .inl (zA v_p0_rules_after))), (a_p0_state, .inr (8, [.ref a_p0_state_pieces, .ref a_p0_state_friends, .ref a_p0_state_spoons, .ref a_p0_state_eaten, .ref a_p0_state_seen, .int (Int32.ofInt i_p0_state_seenDays), .int (Int32.ofInt i_p0_state_bone), .int (Int32.ofInt i_p0_state_king), .int (Int32.ofInt i_p0_state_days)])), (a_p0_state_friends, .inl (G 1, 7, .inl (zA v_p0_state_friends))), (a_p0_kitchen, .inr (2, [.ref a_p0_rules, .ref a_p0_state, .ref a_p0_kitchen_places, .ref a_p0_kitchen_holders, .ref a_p0_kitchen_stirred])), (a_p0_kitchen_places, .inl (G 1, 49, .inl (zA v_p0_kitchen_places))), (a_p0_kitchen_holders, .inl (G 1, 49, .inl (zA v_p0_kitchen_holders))), (a_p0_plans, .inr (5, [.ref a_p0_kitchen, .ref a_p0_plans_good, .ref a_p0_plans_row])), (a_p0_plans_good, .inl (G 2, 11, .inr (.inl (zL v_p0_plans_good)))), (a_p0_plans_row, .inl (G 1, 10, .inl (zA v_p0_plans_row)))] H := by rw [hH]; exact hP
  rw [← hH]
  clear hH
  unfold f_X11_reign at hf
  refine lv_iload_n hx hb dX11_reign_0 rfl (lv_at hl 1 rfl) ?_
  refine lv_iconst (v := Int32.ofInt (1 : Int)) hx hb dX11_reign_1 (by decide) ?_
  have hr0 := ck_c hf
  replace hf := ck_r hf
  refine lv_icmp_lt (tgt := 20) hx hb dX11_reign_2 (by decide) (fun cc => ?_) (fun cc => ?_)
  ·
    replace hf := ite_t ((z_lt hr0 (by decide)).mp cc) hf
    clear cc
    refine lv_iconst (v := Int32.ofInt (-1 : Int)) hx hb dX11_reign_20 (by decide) ?_
    obtain ⟨rfl, rfl, rfl, rfl, rfl⟩ := ou5 hf
    rw [hQ]
    exact W.iret hx hb hr (fun t ht hW => ⟨⟨_, (), rfl, rfl, by rw [ht]; exact hP, va_K.moved hW.alike hK, hD⟩, hS.F ht⟩) hS.2.2 dX11_reign_21
  ·
    replace hf := ite_f (fun h9 => cc ((z_lt hr0 (by decide)).mpr h9)) hf
    clear cc
    refine lv_iload_n hx hb dX11_reign_5 rfl (lv_at hl 1 rfl) ?_
    refine lv_bipush (v := Int32.ofInt (10 : Int)) hx hb dX11_reign_6 (by decide) ?_
    refine lv_icmp_gt (tgt := 20) hx hb dX11_reign_8 (by decide) (fun cc => ?_) (fun cc => ?_)
    ·
      replace hf := ite_t ((z_lt (by decide) hr0).mp cc) hf
      clear cc
      refine lv_iconst (v := Int32.ofInt (-1 : Int)) hx hb dX11_reign_20 (by decide) ?_
      obtain ⟨rfl, rfl, rfl, rfl, rfl⟩ := ou5 hf
      rw [hQ]
      exact W.iret hx hb hr (fun t ht hW => ⟨⟨_, (), rfl, rfl, by rw [ht]; exact hP, va_K.moved hW.alike hK, hD⟩, hS.F ht⟩) hS.2.2 dX11_reign_21
    ·
      replace hf := ite_f (fun h9 => cc ((z_lt (by decide) hr0).mpr h9)) hf
      clear cc
      refine lv_iload_n hx hb dX11_reign_11 rfl (lv_at hl 2 rfl) ?_
      refine lv_bipush (v := Int32.ofInt (10 : Int)) hx hb dX11_reign_12 (by decide) ?_
      have hq := bd1_s hf
      clear hf
      obtain ⟨z2, hcall, hf⟩ := hq
      refine gnI (va_runS (As := [.int (Int32.ofInt x2), .int (Int32.ofInt (10 : Int))]) (rest := []) ⟨hx, hb, hml, hown, hts⟩ (c_X11_isRowQuestion (l := l) (D := D) (G := G) (sz := H.size) (x0 := x2) (x1 := (10 : Int)) (r := z2) (hf := hcall)) (va_cwS 2 hts gX11_reign_X11_isRowQuestion rfl rfl rfl (by decide +kernel) ⟨Nat.le_of_ble_eq_true rfl, Nat.le_of_ble_eq_true rfl⟩) (preG_S (hP.sub [] rfl) (hD.sub [] rfl rfl) hK) rfl rfl hl.1 rfl (lv_room (Nat.le_of_ble_eq_true rfl)) dX11_reign_14 ⟨Nat.le_of_ble_eq_true rfl, Nat.le_of_ble_eq_true rfl⟩) hP hD hS hA [] rfl (fun H locs hP hD hS => ?_)
      clear hcall
      have hr2 := ck_c hf
      replace hf := ck_r hf
      refine lv_if_ne (tgt := 22) hx hb dX11_reign_17 (by decide) (fun cc => ?_) (fun cc => ?_)
      ·
        replace hf := ite_f (fun h9 => cc ((z_eq0 hr2).mpr h9)) hf
        clear cc
        refine lv_aload_n hx hb dX11_reign_22 rfl (lv_at hl 0 rfl) ?_
        refine va_get (D := D) (ci := 11) (v := .ref a_p0_rules) (C := RX11) (T := TX11) (N := 15) hx hb hts inX11_reign_X11 hown hK hP 0 rfl rfl 0 (by decide) (hts _ mwX11_reign_1) (fun _ h9 => h9) rfl dX11_reign_23 ?_
        refine va_get (D := D) (ci := 6) (v := .int (Int32.ofInt i_p0_rules_stirs)) (C := RX6) (T := TX6) (N := 7) hx hb hts inX11_reign_X6 hown hK hP 1 rfl rfl 1 (by decide) (hts _ mwX11_reign_3) (fun _ h9 => h9) rfl dX11_reign_26 ?_
        have hr3 := ck_c hf
        replace hf := ck_r hf
        refine lv_if_ne (tgt := 35) hx hb dX11_reign_29 (by decide) (fun cc => ?_) (fun cc => ?_)
        ·
          replace hf := ite_f (fun h9 => cc ((z_eq0 hr3).mpr h9)) hf
          clear cc
          refine lv_aload_n hx hb dX11_reign_35 rfl (lv_at hl 0 rfl) ?_
          refine va_get (D := D) (ci := 11) (v := .ref a_p0_plans) (C := RX11) (T := TX11) (N := 15) hx hb hts inX11_reign_X11 hown hK hP 0 rfl rfl 6 (by decide) (hts _ mwX11_reign_4) (fun _ h9 => h9) rfl dX11_reign_36 ?_
          refine lv_iload_n hx hb dX11_reign_39 rfl (lv_at hl 1 rfl) ?_
          have hq := bd5_s hf
          clear hf
          obtain ⟨z5, w6, w7, w8, w9, hcall, hf⟩ := hq
          refine gcI (ws' := [(a_p0, .inr (11, [.ref a_p0_rules, .ref a_p0_state, .ref a_p0_tape, .ref a_p0_reader, .ref a_p0_kitchen, .ref a_p0_luck, .ref a_p0_plans, .ref a_p0_coups, .ref a_p0_past, .ref a_p0_fairDays, .ref a_p0_images, .ref a_p0_imageHeld, .ref a_p0_sheets, .int (Int32.ofInt i_p0_latestFault), .int (Int32.ofInt i_p0_latestTear)])), (a_p0_rules, .inr (6, [.int (Int32.ofInt i_p0_rules_seats), .int (Int32.ofInt i_p0_rules_stirs), .ref a_p0_rules_need, .ref a_p0_rules_kind, .ref a_p0_rules_first, .ref a_p0_rules_second, .ref a_p0_rules_after])), (a_p0_rules_after, .inl (G 1, 35, .inl (zA v_p0_rules_after))), (a_p0_state, .inr (8, [.ref a_p0_state_pieces, .ref a_p0_state_friends, .ref a_p0_state_spoons, .ref a_p0_state_eaten, .ref a_p0_state_seen, .int (Int32.ofInt i_p0_state_seenDays), .int (Int32.ofInt i_p0_state_bone), .int (Int32.ofInt i_p0_state_king), .int (Int32.ofInt i_p0_state_days)])), (a_p0_state_friends, .inl (G 1, 7, .inl (zA v_p0_state_friends))), (a_p0_kitchen, .inr (2, [.ref a_p0_rules, .ref a_p0_state, .ref a_p0_kitchen_places, .ref a_p0_kitchen_holders, .ref a_p0_kitchen_stirred])), (a_p0_kitchen_places, .inl (G 1, 49, .inl (zA w6))), (a_p0_kitchen_holders, .inl (G 1, 49, .inl (zA w7))), (a_p0_plans, .inr (5, [.ref a_p0_kitchen, .ref a_p0_plans_good, .ref a_p0_plans_row])), (a_p0_plans_good, .inl (G 2, 11, .inr (.inl (zL w8)))), (a_p0_plans_row, .inl (G 1, 10, .inl (zA w9)))]) (va_runV (As := [.int (Int32.ofInt x1)]) (rest := []) ⟨hx, hb, hml, hown, hts⟩ (c_X5_planReign (l := l) (D := D) (G := G) (sz := H.size) (a_p0 := a_p0_plans) (a_p0_kitchen := a_p0_kitchen) (a_p0_good := a_p0_plans_good) (a_p0_row := a_p0_plans_row) (a_p0_kitchen_rules := a_p0_rules) (a_p0_kitchen_state := a_p0_state) (a_p0_kitchen_places := a_p0_kitchen_places) (a_p0_kitchen_holders := a_p0_kitchen_holders) (a_p0_kitchen_stirred := a_p0_kitchen_stirred) (a_p0_kitchen_rules_need := a_p0_rules_need) (a_p0_kitchen_rules_kind := a_p0_rules_kind) (a_p0_kitchen_rules_first := a_p0_rules_first) (a_p0_kitchen_rules_second := a_p0_rules_second) (a_p0_kitchen_rules_after := a_p0_rules_after) (a_p0_kitchen_state_pieces := a_p0_state_pieces) (a_p0_kitchen_state_friends := a_p0_state_friends) (a_p0_kitchen_state_spoons := a_p0_state_spoons) (a_p0_kitchen_state_eaten := a_p0_state_eaten) (a_p0_kitchen_state_seen := a_p0_state_seen) (i_p0_kitchen_rules_seats := i_p0_rules_seats) (i_p0_kitchen_rules_stirs := i_p0_rules_stirs) (v_p0_kitchen_rules_after := v_p0_rules_after) (i_p0_kitchen_state_seenDays := i_p0_state_seenDays) (i_p0_kitchen_state_bone := i_p0_state_bone) (i_p0_kitchen_state_king := i_p0_state_king) (i_p0_kitchen_state_days := i_p0_state_days) (v_p0_kitchen_state_friends := v_p0_state_friends) (v_p0_kitchen_places := v_p0_kitchen_places) (v_p0_kitchen_holders := v_p0_kitchen_holders) (v_p0_good := v_p0_plans_good) (v_p0_row := v_p0_plans_row) (x1 := x1) (r := z5) (o_v_p0_kitchen_places := w6) (o_v_p0_kitchen_holders := w7) (o_v_p0_good := w8) (o_v_p0_row := w9) (hf := hcall)) (cwV 1 hts gX11_reign_X5_planReign rfl rfl rfl hdV_yX5_planReign_RX5 ⟨Nat.le_of_ble_eq_true rfl, Nat.le_of_ble_eq_true rfl⟩) (preG_V (ci := 5) (q := (RX5, TX5, 3)) (hP.sub [8, 5, 1, 2, 3, 4, 6, 7, 9, 10] rfl) (hD.sub [8, 5, 1, 2, 3, 4, 6, 7, 9, 10] rfl rfl) hK rfl rfl) rfl rfl hl.1 rfl (lv_room (Nat.le_of_ble_eq_true rfl)) dX11_reign_40 ⟨Nat.le_of_ble_eq_true rfl, Nat.le_of_ble_eq_true rfl⟩) hP hD hS hA [8, 5, 1, 2, 3, 4, 6, 7, 9, 10] [0] [0, 3, 4, 5, 6, 2, 7, 8, 1, 9, 10] rfl rfl rfl (by decide) rfl rfl rfl (fun H locs hP hD hS => ?_)
          clear hcall
          refine z_topi (fun z10 ez => ?_)
          replace hf := bnd_s hf ez
          clear ez
          refine lv_istore_n (lv' := [(3, .int (Int32.ofInt z10)), (0, .ref a_p0), (1, .int (Int32.ofInt x1)), (2, .int (Int32.ofInt x2))]) hx hb dX11_reign_43 rfl hl (by decide) rfl (fun ls hl => ?_)
          refine lv_iload_n hx hb dX11_reign_44 rfl (lv_at hl 3 rfl) ?_
          have hr10 := ck_c hf
          replace hf := ck_r hf
          refine lv_if_ne (tgt := 52) hx hb dX11_reign_45 (by decide) (fun cc => ?_) (fun cc => ?_)
          ·
            replace hf := ite_f (fun h9 => cc ((z_eq0 hr10).mpr h9)) hf
            clear cc
            refine lv_aload_n hx hb dX11_reign_52 rfl (lv_at hl 1 rfl) ?_
            refine va_get (D := D) (ci := 11) (v := .ref a_p0_plans) (C := RX11) (T := TX11) (N := 15) hx hb hts inX11_reign_X11 hown hK hP 0 rfl rfl 6 (by decide) (hts _ mwX11_reign_4) (fun _ h9 => h9) rfl dX11_reign_53 ?_
            refine va_get (D := D) (ci := 5) (v := .ref a_p0_plans_row) (C := RX5) (T := TX5) (N := 3) hx hb hts inX11_reign_X5 hown hK hP 8 rfl rfl 2 (by decide) (hts _ mwX11_reign_7) (fun _ h9 => h9) rfl dX11_reign_56 ?_
            refine lv_iload_n hx hb dX11_reign_59 rfl (lv_at hl 0 rfl) ?_
            refine lv_iload_n hx hb dX11_reign_60 rfl (lv_at hl 3 rfl) ?_
            refine lv_bipush (v := Int32.ofInt (10 : Int)) hx hb dX11_reign_61 (by decide) ?_
            refine lv_isub hx hb dX11_reign_63 (z_ci (Int32.ofInt_sub x2 (10 : Int)) ?_)
            have hq := bd1_s hf
            clear hf
            obtain ⟨z12, hcall, hf⟩ := hq
            refine gnI (va_runS (As := [.ref a_p0_plans_row, .int (Int32.ofInt z10), .int (Int32.ofInt (x2 - (10 : Int)))]) (rest := []) ⟨hx, hb, hml, hown, hts⟩ (c_X11_ofRow (l := l) (D := D) (G := G) (sz := H.size) (a_p0 := a_p0_plans_row) (n_p0 := 10) (v_p0 := w9) (x1 := z10) (x2 := (x2 - (10 : Int))) (r := z12) (hf := hcall)) (va_cwS 3 hts gX11_reign_X11_ofRow rfl rfl rfl (by decide +kernel) ⟨Nat.le_of_ble_eq_true rfl, Nat.le_of_ble_eq_true rfl⟩) (preG_S (hP.sub [10] rfl) (hD.sub [10] rfl rfl) hK) rfl rfl hl.1 rfl (lv_room (Nat.le_of_ble_eq_true rfl)) dX11_reign_64 ⟨Nat.le_of_ble_eq_true rfl, Nat.le_of_ble_eq_true rfl⟩) hP hD hS hA [10] rfl (fun H locs hP hD hS => ?_)
            clear hcall
            obtain ⟨rfl, rfl, rfl, rfl, rfl⟩ := ou5 hf
            rw [hQ]
            exact W.iret hx hb hr (fun t ht hW => ⟨⟨_, (), rfl, rfl, by rw [ht]; exact hP, va_K.moved hW.alike hK, hD⟩, hS.F ht⟩) hS.2.2 dX11_reign_67
          ·
            replace hf := ite_t ((z_eq0 hr10).mp cc) hf
            clear cc
            refine lv_iload_n hx hb dX11_reign_48 rfl (lv_at hl 0 rfl) ?_
            refine lv_goto (tgt := 67) hx hb dX11_reign_49 (by decide) ?_
            obtain ⟨rfl, rfl, rfl, rfl, rfl⟩ := ou5 hf
            rw [hQ]
            exact W.iret hx hb hr (fun t ht hW => ⟨⟨_, (), rfl, rfl, by rw [ht]; exact hP, va_K.moved hW.alike hK, hD⟩, hS.F ht⟩) hS.2.2 dX11_reign_67
        ·
          replace hf := ite_t ((z_eq0 hr3).mp cc) hf
          clear cc
          refine lv_bipush (v := Int32.ofInt (-2 : Int)) hx hb dX11_reign_32 (by decide) ?_
          obtain ⟨rfl, rfl, rfl, rfl, rfl⟩ := ou5 hf
          rw [hQ]
          exact W.iret hx hb hr (fun t ht hW => ⟨⟨_, (), rfl, rfl, by rw [ht]; exact hP, va_K.moved hW.alike hK, hD⟩, hS.F ht⟩) hS.2.2 dX11_reign_34
      ·
        replace hf := ite_t ((z_eq0 hr2).mp cc) hf
        clear cc
        refine lv_iconst (v := Int32.ofInt (-1 : Int)) hx hb dX11_reign_20 (by decide) ?_
        obtain ⟨rfl, rfl, rfl, rfl, rfl⟩ := ou5 hf
        rw [hQ]
        exact W.iret hx hb hr (fun t ht hW => ⟨⟨_, (), rfl, rfl, by rw [ht]; exact hP, va_K.moved hW.alike hK, hD⟩, hS.F ht⟩) hS.2.2 dX11_reign_21

noncomputable def f_X11_raise (i_p0_rules_seats : Int) (i_p0_rules_stirs : Int) (v_p0_rules_after : (Int → Int)) (i_p0_state_bone : Int) (i_p0_state_king : Int) (v_p0_state_friends : (Int → Int)) (v_p0_kitchen_places : (Int → Int)) (v_p0_kitchen_holders : (Int → Int)) (v_p0_plans_good : (Int → Int)) (v_p0_plans_row : (Int → Int)) (x1 : Int) (x2 : Int) : Option (Int × (Int → Int) × (Int → Int) × (Int → Int) × (Int → Int)) := (bd1 (f_X6_hasSeat i_p0_rules_seats x1) (fun (z1 : Int) => (ck (z_r32 z1) (if z1 = (0 : Int) then (some ((-1 : Int), v_p0_kitchen_places, v_p0_kitchen_holders, v_p0_plans_good, v_p0_plans_row)) else (bd1 (f_X11_isRowQuestion x2 (10 : Int)) (fun (z3 : Int) => (ck (z_r32 z3) (if z3 = (0 : Int) then (some ((-1 : Int), v_p0_kitchen_places, v_p0_kitchen_holders, v_p0_plans_good, v_p0_plans_row)) else (ck (z_r32 i_p0_rules_stirs) (if i_p0_rules_stirs = (0 : Int) then (some ((-2 : Int), v_p0_kitchen_places, v_p0_kitchen_holders, v_p0_plans_good, v_p0_plans_row)) else (bd5 (f_X5_planRaise i_p0_rules_seats i_p0_rules_stirs v_p0_rules_after i_p0_state_bone i_p0_state_king v_p0_state_friends v_p0_kitchen_places v_p0_kitchen_holders v_p0_plans_good v_p0_plans_row x1) (fun (z6 : Int) (w7 : (Int → Int)) (w8 : (Int → Int)) (w9 : (Int → Int)) (w10 : (Int → Int)) => (bnd z6 (fun (z11 : Int) => (ck (z_r32 x2) (if x2 = (0 : Int) then (some (z11, w7, w8, w9, w10)) else (bd1 (f_X11_ofRow 10 w10 z11 (x2 - (10 : Int))) (fun (z13 : Int) => (some (z13, w7, w8, w9, w10))))))))))))))))))))
abbrev rm_X11_raise : Room := { frames := 4, cells := 0, slots := 0, locals := 99 }
theorem inX11_raise_X11 : ∀ w ∈ wsX110, w ∈ wsX11_raise := by first | exact fun w h => List.mem_cons_of_mem _ (List.mem_append_left _ (List.mem_append_left _ (List.mem_append_left _ (List.mem_append_left _ (List.mem_append_right _ h))))) | decide +kernel
theorem mwX11_raise_1 : Cond.fieldLink RX11 10 "LadleKings" "rules" "LLadleKings$Rules;" ∈ wsX11_raise := by first | exact List.mem_of_getElem? (i := 1) rfl | decide +kernel
theorem inX11_raise_X6 : ∀ w ∈ wsX60, w ∈ wsX11_raise := by first | exact fun w h => List.mem_cons_of_mem _ (List.mem_append_left _ (List.mem_append_left _ (List.mem_append_left _ (List.mem_append_right _ h)))) | decide +kernel
theorem mwX11_raise_3 : Cond.fieldLink RX11 133 "LadleKings$Rules" "stirs" "I" ∈ wsX11_raise := by first | exact List.mem_of_getElem? (i := 2) rfl | decide +kernel
theorem mwX11_raise_4 : Cond.fieldLink RX11 60 "LadleKings" "plans" "LLadleKings$Plans;" ∈ wsX11_raise := by first | exact List.mem_of_getElem? (i := 3) rfl | decide +kernel
theorem hdV_yX5_planRaise_RX5 : yX5_planRaise.cls = RX5 ∧ yX5_planRaise.cls ≠ "java/lang/invoke/MethodHandle" ∧ yX5_planRaise.cls ≠ "java/lang/invoke/VarHandle" ∧ (parseMethodDescriptor yX5_planRaise.desc).map (fun d => d.parameters.length) = some 1 := by decide +kernel
theorem inX11_raise_X5 : ∀ w ∈ wsX50, w ∈ wsX11_raise := by first | exact fun w h => List.mem_cons_of_mem _ (List.mem_append_left _ (List.mem_append_left _ (List.mem_append_right _ h))) | decide +kernel
theorem mwX11_raise_7 : Cond.fieldLink RX11 228 "LadleKings$Plans" "row" "[I" ∈ wsX11_raise := by first | exact List.mem_of_getElem? (i := 4) rfl | decide +kernel
set_option maxHeartbeats 8000000 in
set_option maxRecDepth 100000 in
theorem c_X11_raise (l : Launch) (D : va_G) (G : Nat → ClassId) (sz : Nat) (a_p0 : Nat) (a_p0_rules : Nat) (a_p0_state : Nat) (a_p0_tape : Nat) (a_p0_reader : Nat) (a_p0_kitchen : Nat) (a_p0_luck : Nat) (a_p0_plans : Nat) (a_p0_coups : Nat) (a_p0_past : Nat) (a_p0_fairDays : Nat) (a_p0_images : Nat) (a_p0_imageHeld : Nat) (a_p0_sheets : Nat) (a_p0_rules_need : Nat) (a_p0_rules_kind : Nat) (a_p0_rules_first : Nat) (a_p0_rules_second : Nat) (a_p0_rules_after : Nat) (a_p0_state_pieces : Nat) (a_p0_state_friends : Nat) (a_p0_state_spoons : Nat) (a_p0_state_eaten : Nat) (a_p0_state_seen : Nat) (a_p0_kitchen_places : Nat) (a_p0_kitchen_holders : Nat) (a_p0_kitchen_stirred : Nat) (a_p0_plans_good : Nat) (a_p0_plans_row : Nat) (i_p0_latestFault : Int) (i_p0_latestTear : Int) (i_p0_rules_seats : Int) (i_p0_rules_stirs : Int) (v_p0_rules_after : (Int → Int)) (i_p0_state_seenDays : Int) (i_p0_state_bone : Int) (i_p0_state_king : Int) (i_p0_state_days : Int) (v_p0_state_friends : (Int → Int)) (v_p0_kitchen_places : (Int → Int)) (v_p0_kitchen_holders : (Int → Int)) (v_p0_plans_good : (Int → Int)) (v_p0_plans_row : (Int → Int)) (x1 : Int) (x2 : Int) (r : Int) (o_v_p0_kitchen_places : (Int → Int)) (o_v_p0_kitchen_holders : (Int → Int)) (o_v_p0_plans_good : (Int → Int)) (o_v_p0_plans_row : (Int → Int)) (hf : f_X11_raise i_p0_rules_seats i_p0_rules_stirs v_p0_rules_after i_p0_state_bone i_p0_state_king v_p0_state_friends v_p0_kitchen_places v_p0_kitchen_holders v_p0_plans_good v_p0_plans_row x1 x2 = some (r, o_v_p0_kitchen_places, o_v_p0_kitchen_holders, o_v_p0_plans_good, o_v_p0_plans_row)) : Met l yX11_raise wsX11_raise rm_X11_raise (pcG D G [.ref a_p0, .int (Int32.ofInt x1), .int (Int32.ofInt x2)] sz [(a_p0, .inr (11, [.ref a_p0_rules, .ref a_p0_state, .ref a_p0_tape, .ref a_p0_reader, .ref a_p0_kitchen, .ref a_p0_luck, .ref a_p0_plans, .ref a_p0_coups, .ref a_p0_past, .ref a_p0_fairDays, .ref a_p0_images, .ref a_p0_imageHeld, .ref a_p0_sheets, .int (Int32.ofInt i_p0_latestFault), .int (Int32.ofInt i_p0_latestTear)])), (a_p0_rules, .inr (6, [.int (Int32.ofInt i_p0_rules_seats), .int (Int32.ofInt i_p0_rules_stirs), .ref a_p0_rules_need, .ref a_p0_rules_kind, .ref a_p0_rules_first, .ref a_p0_rules_second, .ref a_p0_rules_after])), (a_p0_rules_after, .inl (G 1, 35, .inl (zA v_p0_rules_after))), (a_p0_state, .inr (8, [.ref a_p0_state_pieces, .ref a_p0_state_friends, .ref a_p0_state_spoons, .ref a_p0_state_eaten, .ref a_p0_state_seen, .int (Int32.ofInt i_p0_state_seenDays), .int (Int32.ofInt i_p0_state_bone), .int (Int32.ofInt i_p0_state_king), .int (Int32.ofInt i_p0_state_days)])), (a_p0_state_friends, .inl (G 1, 7, .inl (zA v_p0_state_friends))), (a_p0_kitchen, .inr (2, [.ref a_p0_rules, .ref a_p0_state, .ref a_p0_kitchen_places, .ref a_p0_kitchen_holders, .ref a_p0_kitchen_stirred])), (a_p0_kitchen_places, .inl (G 1, 49, .inl (zA v_p0_kitchen_places))), (a_p0_kitchen_holders, .inl (G 1, 49, .inl (zA v_p0_kitchen_holders))), (a_p0_plans, .inr (5, [.ref a_p0_kitchen, .ref a_p0_plans_good, .ref a_p0_plans_row])), (a_p0_plans_good, .inl (G 2, 11, .inr (.inl (zL v_p0_plans_good)))), (a_p0_plans_row, .inl (G 1, 10, .inl (zA v_p0_plans_row)))]) (qcI D G (Int32.ofInt r) [(a_p0, .inr (11, [.ref a_p0_rules, .ref a_p0_state, .ref a_p0_tape, .ref a_p0_reader, .ref a_p0_kitchen, .ref a_p0_luck, .ref a_p0_plans, .ref a_p0_coups, .ref a_p0_past, .ref a_p0_fairDays, .ref a_p0_images, .ref a_p0_imageHeld, .ref a_p0_sheets, .int (Int32.ofInt i_p0_latestFault), .int (Int32.ofInt i_p0_latestTear)])), (a_p0_rules, .inr (6, [.int (Int32.ofInt i_p0_rules_seats), .int (Int32.ofInt i_p0_rules_stirs), .ref a_p0_rules_need, .ref a_p0_rules_kind, .ref a_p0_rules_first, .ref a_p0_rules_second, .ref a_p0_rules_after])), (a_p0_rules_after, .inl (G 1, 35, .inl (zA v_p0_rules_after))), (a_p0_state, .inr (8, [.ref a_p0_state_pieces, .ref a_p0_state_friends, .ref a_p0_state_spoons, .ref a_p0_state_eaten, .ref a_p0_state_seen, .int (Int32.ofInt i_p0_state_seenDays), .int (Int32.ofInt i_p0_state_bone), .int (Int32.ofInt i_p0_state_king), .int (Int32.ofInt i_p0_state_days)])), (a_p0_state_friends, .inl (G 1, 7, .inl (zA v_p0_state_friends))), (a_p0_kitchen, .inr (2, [.ref a_p0_rules, .ref a_p0_state, .ref a_p0_kitchen_places, .ref a_p0_kitchen_holders, .ref a_p0_kitchen_stirred])), (a_p0_kitchen_places, .inl (G 1, 49, .inl (zA o_v_p0_kitchen_places))), (a_p0_kitchen_holders, .inl (G 1, 49, .inl (zA o_v_p0_kitchen_holders))), (a_p0_plans, .inr (5, [.ref a_p0_kitchen, .ref a_p0_plans_good, .ref a_p0_plans_row])), (a_p0_plans_good, .inl (G 2, 11, .inr (.inl (zL o_v_p0_plans_good)))), (a_p0_plans_row, .inl (G 1, 10, .inl (zA o_v_p0_plans_row)))] (va_A [(a_p0, .inr (11, [.ref a_p0_rules, .ref a_p0_state, .ref a_p0_tape, .ref a_p0_reader, .ref a_p0_kitchen, .ref a_p0_luck, .ref a_p0_plans, .ref a_p0_coups, .ref a_p0_past, .ref a_p0_fairDays, .ref a_p0_images, .ref a_p0_imageHeld, .ref a_p0_sheets, .int (Int32.ofInt i_p0_latestFault), .int (Int32.ofInt i_p0_latestTear)])), (a_p0_rules, .inr (6, [.int (Int32.ofInt i_p0_rules_seats), .int (Int32.ofInt i_p0_rules_stirs), .ref a_p0_rules_need, .ref a_p0_rules_kind, .ref a_p0_rules_first, .ref a_p0_rules_second, .ref a_p0_rules_after])), (a_p0_rules_after, .inl (G 1, 35, .inl (zA v_p0_rules_after))), (a_p0_state, .inr (8, [.ref a_p0_state_pieces, .ref a_p0_state_friends, .ref a_p0_state_spoons, .ref a_p0_state_eaten, .ref a_p0_state_seen, .int (Int32.ofInt i_p0_state_seenDays), .int (Int32.ofInt i_p0_state_bone), .int (Int32.ofInt i_p0_state_king), .int (Int32.ofInt i_p0_state_days)])), (a_p0_state_friends, .inl (G 1, 7, .inl (zA v_p0_state_friends))), (a_p0_kitchen, .inr (2, [.ref a_p0_rules, .ref a_p0_state, .ref a_p0_kitchen_places, .ref a_p0_kitchen_holders, .ref a_p0_kitchen_stirred])), (a_p0_kitchen_places, .inl (G 1, 49, .inl (zA v_p0_kitchen_places))), (a_p0_kitchen_holders, .inl (G 1, 49, .inl (zA v_p0_kitchen_holders))), (a_p0_plans, .inr (5, [.ref a_p0_kitchen, .ref a_p0_plans_good, .ref a_p0_plans_row])), (a_p0_plans_good, .inl (G 2, 11, .inr (.inl (zL v_p0_plans_good)))), (a_p0_plans_row, .inl (G 1, 10, .inl (zA v_p0_plans_row)))] sz)) 0 0 (va_A [(a_p0, .inr (11, [.ref a_p0_rules, .ref a_p0_state, .ref a_p0_tape, .ref a_p0_reader, .ref a_p0_kitchen, .ref a_p0_luck, .ref a_p0_plans, .ref a_p0_coups, .ref a_p0_past, .ref a_p0_fairDays, .ref a_p0_images, .ref a_p0_imageHeld, .ref a_p0_sheets, .int (Int32.ofInt i_p0_latestFault), .int (Int32.ofInt i_p0_latestTear)])), (a_p0_rules, .inr (6, [.int (Int32.ofInt i_p0_rules_seats), .int (Int32.ofInt i_p0_rules_stirs), .ref a_p0_rules_need, .ref a_p0_rules_kind, .ref a_p0_rules_first, .ref a_p0_rules_second, .ref a_p0_rules_after])), (a_p0_rules_after, .inl (G 1, 35, .inl (zA v_p0_rules_after))), (a_p0_state, .inr (8, [.ref a_p0_state_pieces, .ref a_p0_state_friends, .ref a_p0_state_spoons, .ref a_p0_state_eaten, .ref a_p0_state_seen, .int (Int32.ofInt i_p0_state_seenDays), .int (Int32.ofInt i_p0_state_bone), .int (Int32.ofInt i_p0_state_king), .int (Int32.ofInt i_p0_state_days)])), (a_p0_state_friends, .inl (G 1, 7, .inl (zA v_p0_state_friends))), (a_p0_kitchen, .inr (2, [.ref a_p0_rules, .ref a_p0_state, .ref a_p0_kitchen_places, .ref a_p0_kitchen_holders, .ref a_p0_kitchen_stirred])), (a_p0_kitchen_places, .inl (G 1, 49, .inl (zA v_p0_kitchen_places))), (a_p0_kitchen_holders, .inl (G 1, 49, .inl (zA v_p0_kitchen_holders))), (a_p0_plans, .inr (5, [.ref a_p0_kitchen, .ref a_p0_plans_good, .ref a_p0_plans_row])), (a_p0_plans_good, .inl (G 2, 11, .inr (.inl (zL v_p0_plans_good)))), (a_p0_plans_row, .inl (G 1, 10, .inl (zA v_p0_plans_row)))] sz) := by
  refine Met.ofW (cc := cX11_raise) (maxL := 4) (ret := (some .int)) (by decide) rfl ?_
  intro p e s m args below meth c s₁ B hml hv
  obtain ⟨rfl, hsz, hP, hK, hD0⟩ := hv
  have hx := B.exec
  have hb := B.bytes
  have hr := B.returns
  have hts := atoms_spec (ws := wsX11_raise) B.pre
  have hown : s.vm.findClass RX11 = some m.cls := findClass_of_methodNamed B.named
  have hlocks := B.notSynchronized
  subst hsz
  have hD := hD0.self (sz := s.heap.size)
  generalize hAe : va_A [(a_p0, .inr (11, [.ref a_p0_rules, .ref a_p0_state, .ref a_p0_tape, .ref a_p0_reader, .ref a_p0_kitchen, .ref a_p0_luck, .ref a_p0_plans, .ref a_p0_coups, .ref a_p0_past, .ref a_p0_fairDays, .ref a_p0_images, .ref a_p0_imageHeld, .ref a_p0_sheets, .int (Int32.ofInt i_p0_latestFault), .int (Int32.ofInt i_p0_latestTear)])), (a_p0_rules, .inr (6, [.int (Int32.ofInt i_p0_rules_seats), .int (Int32.ofInt i_p0_rules_stirs), .ref a_p0_rules_need, .ref a_p0_rules_kind, .ref a_p0_rules_first, .ref a_p0_rules_second, .ref a_p0_rules_after])), (a_p0_rules_after, .inl (G 1, 35, .inl (zA v_p0_rules_after))), (a_p0_state, .inr (8, [.ref a_p0_state_pieces, .ref a_p0_state_friends, .ref a_p0_state_spoons, .ref a_p0_state_eaten, .ref a_p0_state_seen, .int (Int32.ofInt i_p0_state_seenDays), .int (Int32.ofInt i_p0_state_bone), .int (Int32.ofInt i_p0_state_king), .int (Int32.ofInt i_p0_state_days)])), (a_p0_state_friends, .inl (G 1, 7, .inl (zA v_p0_state_friends))), (a_p0_kitchen, .inr (2, [.ref a_p0_rules, .ref a_p0_state, .ref a_p0_kitchen_places, .ref a_p0_kitchen_holders, .ref a_p0_kitchen_stirred])), (a_p0_kitchen_places, .inl (G 1, 49, .inl (zA v_p0_kitchen_places))), (a_p0_kitchen_holders, .inl (G 1, 49, .inl (zA v_p0_kitchen_holders))), (a_p0_plans, .inr (5, [.ref a_p0_kitchen, .ref a_p0_plans_good, .ref a_p0_plans_row])), (a_p0_plans_good, .inl (G 2, 11, .inr (.inl (zL v_p0_plans_good)))), (a_p0_plans_row, .inl (G 1, 10, .inl (zA v_p0_plans_row)))] s.heap.size = A at hD ⊢
  have hA : ∀ q : Nat, s.heap.size ≤ q → A q := fun q h => by rw [← hAe]; exact Or.inr h
  clear hAe hD0
  have hS : va_S A s.heap s.heap [] := va_S.rf
  have hl := lv_entry ([.ref a_p0, .int (Int32.ofInt x1), .int (Int32.ofInt x2)]) (n := 4) (Nat.le_of_ble_eq_true rfl)
  rw [lg_entry_eq]
  generalize (lg_sl ([.ref a_p0, .int (Int32.ofInt x1), .int (Int32.ofInt x2)]) ++ List.replicate (4 - (lg_sl ([.ref a_p0, .int (Int32.ofInt x1), .int (Int32.ofInt x2)])).length) Slot.unset).toArray = ls at hl ⊢
  have hl : lv_has ls 4 [(0, .ref a_p0), (1, .int (Int32.ofInt x1)), (2, .int (Int32.ofInt x2))] := hl
  refine W_nameQ (fun Q hQ => ?_)
  obtain ⟨H, hH⟩ : ∃ H, H = s.heap := ⟨_, rfl⟩
  replace hS : va_S A s.heap H [] := by rw [hH]; exact hS
  replace hP : va_P D vwCl [(a_p0, .inr (11, [.ref a_p0_rules, .ref a_p0_state, .ref a_p0_tape, .ref a_p0_reader, .ref a_p0_kitchen, .ref a_p0_luck, .ref a_p0_plans, .ref a_p0_coups, .ref a_p0_past, .ref a_p0_fairDays, .ref a_p0_images, .ref a_p0_imageHeld, .ref a_p0_sheets, .int (Int32.ofInt i_p0_latestFault), .int (Int32.ofInt i_p0_latestTear)])), (a_p0_rules, .inr (6, [.int (Int32.ofInt i_p0_rules_seats), .int (Int32.ofInt i_p0_rules_stirs), .ref a_p0_rules_need, .ref a_p0_rules_kind, .ref a_p0_rules_first, .ref a_p0_rules_second, .ref a_p0_rules_after])), (a_p0_rules_after, .inl (G 1, 35, .inl (zA v_p0_rules_after))), (a_p0_state, .inr (8, [.ref a_p0_state_pieces, .ref a_p0_state_friends, .ref a_p0_state_spoons, .ref a_p0_state_eaten, .ref a_p0_state_seen, .int (Int32.ofInt i_p0_state_seenDays), .int (Int32.ofInt i_p0_state_bone), .int (Int32.ofInt i_p0_state_king), .int (Int32.ofInt i_p0_state_days)])), (a_p0_state_friends, .inl (G 1, 7, .inl (zA v_p0_state_friends))), (a_p0_kitchen, .inr (2, [.ref a_p0_rules, .ref a_p0_state, .ref a_p0_kitchen_places, .ref a_p0_kitchen_holders, .ref a_p0_kitchen_stirred])), (a_p0_kitchen_places, .inl (G 1, 49, .inl (zA v_p0_kitchen_places))), (a_p0_kitchen_holders, .inl (G 1, 49, .inl (zA v_p0_kitchen_holders))), (a_p0_plans, .inr (5, [.ref a_p0_kitchen, .ref a_p0_plans_good, .ref a_p0_plans_row])), (a_p0_plans_good, .inl (G 2, 11, .inr (.inl (zL v_p0_plans_good)))), (a_p0_plans_row, .inl (G 1, 10, .inl (zA v_p0_plans_row)))] H := by rw [hH]; exact hP
  rw [← hH]
  clear hH
  unfold f_X11_raise at hf
  refine lv_aload_n hx hb dX11_raise_0 rfl (lv_at hl 0 rfl) ?_
  refine va_get (D := D) (ci := 11) (v := .ref a_p0_rules) (C := RX11) (T := TX11) (N := 15) hx hb hts inX11_raise_X11 hown hK hP 0 rfl rfl 0 (by decide) (hts _ mwX11_raise_1) (fun _ h9 => h9) rfl dX11_raise_1 ?_
  refine lv_iload_n hx hb dX11_raise_4 rfl (lv_at hl 1 rfl) ?_
  have hq := bd1_s hf
  clear hf
  obtain ⟨z1, hcall, hf⟩ := hq
  refine gnI (va_runV (As := [.int (Int32.ofInt x1)]) (rest := []) ⟨hx, hb, hml, hown, hts⟩ (c_X6_hasSeat (l := l) (D := D) (G := G) (sz := H.size) (a_p0 := a_p0_rules) (a_p0_need := a_p0_rules_need) (a_p0_kind := a_p0_rules_kind) (a_p0_first := a_p0_rules_first) (a_p0_second := a_p0_rules_second) (a_p0_after := a_p0_rules_after) (i_p0_seats := i_p0_rules_seats) (i_p0_stirs := i_p0_rules_stirs) (x1 := x1) (r := z1) (hf := hcall)) (cwV 1 hts gX11_raise_X6_hasSeat rfl rfl rfl hdV_yX6_hasSeat_RX6 ⟨Nat.le_of_ble_eq_true rfl, Nat.le_of_ble_eq_true rfl⟩) (preG_V (ci := 6) (q := (RX6, TX6, 7)) (hP.sub [1] rfl) (hD.sub [1] rfl rfl) hK rfl rfl) rfl rfl hl.1 rfl (lv_room (Nat.le_of_ble_eq_true rfl)) dX11_raise_5 ⟨Nat.le_of_ble_eq_true rfl, Nat.le_of_ble_eq_true rfl⟩) hP hD hS hA [1] rfl (fun H locs hP hD hS => ?_)
  clear hcall
  have hr1 := ck_c hf
  replace hf := ck_r hf
  refine lv_if_eq (tgt := 20) hx hb dX11_raise_8 (by decide) (fun cc => ?_) (fun cc => ?_)
  ·
    replace hf := ite_t ((z_eq0 hr1).mp cc) hf
    clear cc
    refine lv_iconst (v := Int32.ofInt (-1 : Int)) hx hb dX11_raise_20 (by decide) ?_
    obtain ⟨rfl, rfl, rfl, rfl, rfl⟩ := ou5 hf
    rw [hQ]
    exact W.iret hx hb hr (fun t ht hW => ⟨⟨_, (), rfl, rfl, by rw [ht]; exact hP, va_K.moved hW.alike hK, hD⟩, hS.F ht⟩) hS.2.2 dX11_raise_21
  ·
    replace hf := ite_f (fun h9 => cc ((z_eq0 hr1).mpr h9)) hf
    clear cc
    refine lv_iload_n hx hb dX11_raise_11 rfl (lv_at hl 2 rfl) ?_
    refine lv_bipush (v := Int32.ofInt (10 : Int)) hx hb dX11_raise_12 (by decide) ?_
    have hq := bd1_s hf
    clear hf
    obtain ⟨z3, hcall, hf⟩ := hq
    refine gnI (va_runS (As := [.int (Int32.ofInt x2), .int (Int32.ofInt (10 : Int))]) (rest := []) ⟨hx, hb, hml, hown, hts⟩ (c_X11_isRowQuestion (l := l) (D := D) (G := G) (sz := H.size) (x0 := x2) (x1 := (10 : Int)) (r := z3) (hf := hcall)) (va_cwS 2 hts gX11_raise_X11_isRowQuestion rfl rfl rfl (by decide +kernel) ⟨Nat.le_of_ble_eq_true rfl, Nat.le_of_ble_eq_true rfl⟩) (preG_S (hP.sub [] rfl) (hD.sub [] rfl rfl) hK) rfl rfl hl.1 rfl (lv_room (Nat.le_of_ble_eq_true rfl)) dX11_raise_14 ⟨Nat.le_of_ble_eq_true rfl, Nat.le_of_ble_eq_true rfl⟩) hP hD hS hA [] rfl (fun H locs hP hD hS => ?_)
    clear hcall
    have hr3 := ck_c hf
    replace hf := ck_r hf
    refine lv_if_ne (tgt := 22) hx hb dX11_raise_17 (by decide) (fun cc => ?_) (fun cc => ?_)
    ·
      replace hf := ite_f (fun h9 => cc ((z_eq0 hr3).mpr h9)) hf
      clear cc
      refine lv_aload_n hx hb dX11_raise_22 rfl (lv_at hl 0 rfl) ?_
      refine va_get (D := D) (ci := 11) (v := .ref a_p0_rules) (C := RX11) (T := TX11) (N := 15) hx hb hts inX11_raise_X11 hown hK hP 0 rfl rfl 0 (by decide) (hts _ mwX11_raise_1) (fun _ h9 => h9) rfl dX11_raise_23 ?_
      refine va_get (D := D) (ci := 6) (v := .int (Int32.ofInt i_p0_rules_stirs)) (C := RX6) (T := TX6) (N := 7) hx hb hts inX11_raise_X6 hown hK hP 1 rfl rfl 1 (by decide) (hts _ mwX11_raise_3) (fun _ h9 => h9) rfl dX11_raise_26 ?_
      have hr4 := ck_c hf
      replace hf := ck_r hf
      refine lv_if_ne (tgt := 35) hx hb dX11_raise_29 (by decide) (fun cc => ?_) (fun cc => ?_)
      ·
        replace hf := ite_f (fun h9 => cc ((z_eq0 hr4).mpr h9)) hf
        clear cc
        refine lv_aload_n hx hb dX11_raise_35 rfl (lv_at hl 0 rfl) ?_
        refine va_get (D := D) (ci := 11) (v := .ref a_p0_plans) (C := RX11) (T := TX11) (N := 15) hx hb hts inX11_raise_X11 hown hK hP 0 rfl rfl 6 (by decide) (hts _ mwX11_raise_4) (fun _ h9 => h9) rfl dX11_raise_36 ?_
        refine lv_iload_n hx hb dX11_raise_39 rfl (lv_at hl 1 rfl) ?_
        have hq := bd5_s hf
        clear hf
        obtain ⟨z6, w7, w8, w9, w10, hcall, hf⟩ := hq
        refine gcI (ws' := [(a_p0, .inr (11, [.ref a_p0_rules, .ref a_p0_state, .ref a_p0_tape, .ref a_p0_reader, .ref a_p0_kitchen, .ref a_p0_luck, .ref a_p0_plans, .ref a_p0_coups, .ref a_p0_past, .ref a_p0_fairDays, .ref a_p0_images, .ref a_p0_imageHeld, .ref a_p0_sheets, .int (Int32.ofInt i_p0_latestFault), .int (Int32.ofInt i_p0_latestTear)])), (a_p0_rules, .inr (6, [.int (Int32.ofInt i_p0_rules_seats), .int (Int32.ofInt i_p0_rules_stirs), .ref a_p0_rules_need, .ref a_p0_rules_kind, .ref a_p0_rules_first, .ref a_p0_rules_second, .ref a_p0_rules_after])), (a_p0_rules_after, .inl (G 1, 35, .inl (zA v_p0_rules_after))), (a_p0_state, .inr (8, [.ref a_p0_state_pieces, .ref a_p0_state_friends, .ref a_p0_state_spoons, .ref a_p0_state_eaten, .ref a_p0_state_seen, .int (Int32.ofInt i_p0_state_seenDays), .int (Int32.ofInt i_p0_state_bone), .int (Int32.ofInt i_p0_state_king), .int (Int32.ofInt i_p0_state_days)])), (a_p0_state_friends, .inl (G 1, 7, .inl (zA v_p0_state_friends))), (a_p0_kitchen, .inr (2, [.ref a_p0_rules, .ref a_p0_state, .ref a_p0_kitchen_places, .ref a_p0_kitchen_holders, .ref a_p0_kitchen_stirred])), (a_p0_kitchen_places, .inl (G 1, 49, .inl (zA w7))), (a_p0_kitchen_holders, .inl (G 1, 49, .inl (zA w8))), (a_p0_plans, .inr (5, [.ref a_p0_kitchen, .ref a_p0_plans_good, .ref a_p0_plans_row])), (a_p0_plans_good, .inl (G 2, 11, .inr (.inl (zL w9)))), (a_p0_plans_row, .inl (G 1, 10, .inl (zA w10)))]) (va_runV (As := [.int (Int32.ofInt x1)]) (rest := []) ⟨hx, hb, hml, hown, hts⟩ (c_X5_planRaise (l := l) (D := D) (G := G) (sz := H.size) (a_p0 := a_p0_plans) (a_p0_kitchen := a_p0_kitchen) (a_p0_good := a_p0_plans_good) (a_p0_row := a_p0_plans_row) (a_p0_kitchen_rules := a_p0_rules) (a_p0_kitchen_state := a_p0_state) (a_p0_kitchen_places := a_p0_kitchen_places) (a_p0_kitchen_holders := a_p0_kitchen_holders) (a_p0_kitchen_stirred := a_p0_kitchen_stirred) (a_p0_kitchen_rules_need := a_p0_rules_need) (a_p0_kitchen_rules_kind := a_p0_rules_kind) (a_p0_kitchen_rules_first := a_p0_rules_first) (a_p0_kitchen_rules_second := a_p0_rules_second) (a_p0_kitchen_rules_after := a_p0_rules_after) (a_p0_kitchen_state_pieces := a_p0_state_pieces) (a_p0_kitchen_state_friends := a_p0_state_friends) (a_p0_kitchen_state_spoons := a_p0_state_spoons) (a_p0_kitchen_state_eaten := a_p0_state_eaten) (a_p0_kitchen_state_seen := a_p0_state_seen) (i_p0_kitchen_rules_seats := i_p0_rules_seats) (i_p0_kitchen_rules_stirs := i_p0_rules_stirs) (v_p0_kitchen_rules_after := v_p0_rules_after) (i_p0_kitchen_state_seenDays := i_p0_state_seenDays) (i_p0_kitchen_state_bone := i_p0_state_bone) (i_p0_kitchen_state_king := i_p0_state_king) (i_p0_kitchen_state_days := i_p0_state_days) (v_p0_kitchen_state_friends := v_p0_state_friends) (v_p0_kitchen_places := v_p0_kitchen_places) (v_p0_kitchen_holders := v_p0_kitchen_holders) (v_p0_good := v_p0_plans_good) (v_p0_row := v_p0_plans_row) (x1 := x1) (r := z6) (o_v_p0_kitchen_places := w7) (o_v_p0_kitchen_holders := w8) (o_v_p0_good := w9) (o_v_p0_row := w10) (hf := hcall)) (cwV 1 hts gX11_raise_X5_planRaise rfl rfl rfl hdV_yX5_planRaise_RX5 ⟨Nat.le_of_ble_eq_true rfl, Nat.le_of_ble_eq_true rfl⟩) (preG_V (ci := 5) (q := (RX5, TX5, 3)) (hP.sub [8, 5, 1, 2, 3, 4, 6, 7, 9, 10] rfl) (hD.sub [8, 5, 1, 2, 3, 4, 6, 7, 9, 10] rfl rfl) hK rfl rfl) rfl rfl hl.1 rfl (lv_room (Nat.le_of_ble_eq_true rfl)) dX11_raise_40 ⟨Nat.le_of_ble_eq_true rfl, Nat.le_of_ble_eq_true rfl⟩) hP hD hS hA [8, 5, 1, 2, 3, 4, 6, 7, 9, 10] [0] [0, 3, 4, 5, 6, 2, 7, 8, 1, 9, 10] rfl rfl rfl (by decide) rfl rfl rfl (fun H locs hP hD hS => ?_)
        clear hcall
        refine z_topi (fun z11 ez => ?_)
        replace hf := bnd_s hf ez
        clear ez
        refine lv_istore_n (lv' := [(3, .int (Int32.ofInt z11)), (0, .ref a_p0), (1, .int (Int32.ofInt x1)), (2, .int (Int32.ofInt x2))]) hx hb dX11_raise_43 rfl hl (by decide) rfl (fun ls hl => ?_)
        refine lv_iload_n hx hb dX11_raise_44 rfl (lv_at hl 3 rfl) ?_
        have hr11 := ck_c hf
        replace hf := ck_r hf
        refine lv_if_ne (tgt := 52) hx hb dX11_raise_45 (by decide) (fun cc => ?_) (fun cc => ?_)
        ·
          replace hf := ite_f (fun h9 => cc ((z_eq0 hr11).mpr h9)) hf
          clear cc
          refine lv_aload_n hx hb dX11_raise_52 rfl (lv_at hl 1 rfl) ?_
          refine va_get (D := D) (ci := 11) (v := .ref a_p0_plans) (C := RX11) (T := TX11) (N := 15) hx hb hts inX11_raise_X11 hown hK hP 0 rfl rfl 6 (by decide) (hts _ mwX11_raise_4) (fun _ h9 => h9) rfl dX11_raise_53 ?_
          refine va_get (D := D) (ci := 5) (v := .ref a_p0_plans_row) (C := RX5) (T := TX5) (N := 3) hx hb hts inX11_raise_X5 hown hK hP 8 rfl rfl 2 (by decide) (hts _ mwX11_raise_7) (fun _ h9 => h9) rfl dX11_raise_56 ?_
          refine lv_iload_n hx hb dX11_raise_59 rfl (lv_at hl 0 rfl) ?_
          refine lv_iload_n hx hb dX11_raise_60 rfl (lv_at hl 3 rfl) ?_
          refine lv_bipush (v := Int32.ofInt (10 : Int)) hx hb dX11_raise_61 (by decide) ?_
          refine lv_isub hx hb dX11_raise_63 (z_ci (Int32.ofInt_sub x2 (10 : Int)) ?_)
          have hq := bd1_s hf
          clear hf
          obtain ⟨z13, hcall, hf⟩ := hq
          refine gnI (va_runS (As := [.ref a_p0_plans_row, .int (Int32.ofInt z11), .int (Int32.ofInt (x2 - (10 : Int)))]) (rest := []) ⟨hx, hb, hml, hown, hts⟩ (c_X11_ofRow (l := l) (D := D) (G := G) (sz := H.size) (a_p0 := a_p0_plans_row) (n_p0 := 10) (v_p0 := w10) (x1 := z11) (x2 := (x2 - (10 : Int))) (r := z13) (hf := hcall)) (va_cwS 3 hts gX11_raise_X11_ofRow rfl rfl rfl (by decide +kernel) ⟨Nat.le_of_ble_eq_true rfl, Nat.le_of_ble_eq_true rfl⟩) (preG_S (hP.sub [10] rfl) (hD.sub [10] rfl rfl) hK) rfl rfl hl.1 rfl (lv_room (Nat.le_of_ble_eq_true rfl)) dX11_raise_64 ⟨Nat.le_of_ble_eq_true rfl, Nat.le_of_ble_eq_true rfl⟩) hP hD hS hA [10] rfl (fun H locs hP hD hS => ?_)
          clear hcall
          obtain ⟨rfl, rfl, rfl, rfl, rfl⟩ := ou5 hf
          rw [hQ]
          exact W.iret hx hb hr (fun t ht hW => ⟨⟨_, (), rfl, rfl, by rw [ht]; exact hP, va_K.moved hW.alike hK, hD⟩, hS.F ht⟩) hS.2.2 dX11_raise_67
        ·
          replace hf := ite_t ((z_eq0 hr11).mp cc) hf
          clear cc
          refine lv_iload_n hx hb dX11_raise_48 rfl (lv_at hl 0 rfl) ?_
          refine lv_goto (tgt := 67) hx hb dX11_raise_49 (by decide) ?_
          obtain ⟨rfl, rfl, rfl, rfl, rfl⟩ := ou5 hf
          rw [hQ]
          exact W.iret hx hb hr (fun t ht hW => ⟨⟨_, (), rfl, rfl, by rw [ht]; exact hP, va_K.moved hW.alike hK, hD⟩, hS.F ht⟩) hS.2.2 dX11_raise_67
      ·
        replace hf := ite_t ((z_eq0 hr4).mp cc) hf
        clear cc
        refine lv_bipush (v := Int32.ofInt (-2 : Int)) hx hb dX11_raise_32 (by decide) ?_
        obtain ⟨rfl, rfl, rfl, rfl, rfl⟩ := ou5 hf
        rw [hQ]
        exact W.iret hx hb hr (fun t ht hW => ⟨⟨_, (), rfl, rfl, by rw [ht]; exact hP, va_K.moved hW.alike hK, hD⟩, hS.F ht⟩) hS.2.2 dX11_raise_34
    ·
      replace hf := ite_t ((z_eq0 hr3).mp cc) hf
      clear cc
      refine lv_iconst (v := Int32.ofInt (-1 : Int)) hx hb dX11_raise_20 (by decide) ?_
      obtain ⟨rfl, rfl, rfl, rfl, rfl⟩ := ou5 hf
      rw [hQ]
      exact W.iret hx hb hr (fun t ht hW => ⟨⟨_, (), rfl, rfl, by rw [ht]; exact hP, va_K.moved hW.alike hK, hD⟩, hS.F ht⟩) hS.2.2 dX11_raise_21

noncomputable def f_X11_coup (i_p0_rules_seats : Int) (i_p0_rules_stirs : Int) (v_p0_rules_after : (Int → Int)) (v_p0_state_pieces : (Int → Int)) (v_p0_state_friends : (Int → Int)) (v_p0_state_spoons : (Int → Int)) (v_p0_kitchen_places : (Int → Int)) (v_p0_kitchen_holders : (Int → Int)) (v_p0_kitchen_stirred : (Int → Int)) (x1 : Int) (x2 : Int) (x3 : Int) : Option (Int × (Int → Int) × (Int → Int) × (Int → Int)) := (bd1 (f_X6_hasSeat i_p0_rules_seats x1) (fun (z1 : Int) => (ck (z_r32 z1) (if z1 = (0 : Int) then (some ((-1 : Int), v_p0_kitchen_places, v_p0_kitchen_holders, v_p0_kitchen_stirred)) else (bd1 (f_X6_hasStir i_p0_rules_stirs x2) (fun (z3 : Int) => (ck (z_r32 z3) (if z3 = (0 : Int) then (some ((-1 : Int), v_p0_kitchen_places, v_p0_kitchen_holders, v_p0_kitchen_stirred)) else (bd1 (f_X11_isPart x3) (fun (z5 : Int) => (ck (z_r32 z5) (if z5 = (0 : Int) then (some ((-1 : Int), v_p0_kitchen_places, v_p0_kitchen_holders, v_p0_kitchen_stirred)) else (bd2 (f_X2_serveAllKings i_p0_rules_seats v_p0_state_friends v_p0_kitchen_places v_p0_kitchen_holders) (fun (w7 : (Int → Int)) (w8 : (Int → Int)) => (bd1 (f_X2_stirPot i_p0_rules_seats v_p0_rules_after v_p0_state_pieces v_p0_kitchen_stirred x2) (fun (w9 : (Int → Int)) => (bd1 (f_X0_leastLeader i_p0_rules_seats v_p0_state_spoons w7 w9 x1) (fun (z10 : Int) => (bnd z10 (fun (z11 : Int) => (ck (z_r32 z11) (if z11 = (-4 : Int) then (some (z11, w7, w8, w9)) else (ck (z_r32 x3) (if x3 = (0 : Int) then (some (z11, w7, w8, w9)) else (bd1 (f_X0_leastBand i_p0_rules_seats v_p0_state_spoons w7 w9 x1 z11) (fun (z14 : Int) => (some (z14, w7, w8, w9))))))))))))))))))))))))))))
abbrev rm_X11_coup : Room := { frames := 5, cells := 0, slots := 0, locals := 113 }
theorem inX11_coup_X11 : ∀ w ∈ wsX110, w ∈ wsX11_coup := by first | exact fun w h => List.mem_cons_of_mem _ (List.mem_append_left _ (List.mem_append_left _ (List.mem_append_left _ (List.mem_append_left _ (List.mem_append_right _ h))))) | decide +kernel
theorem mwX11_coup_1 : Cond.fieldLink RX11 10 "LadleKings" "rules" "LLadleKings$Rules;" ∈ wsX11_coup := by first | exact List.mem_of_getElem? (i := 1) rfl | decide +kernel
theorem mwX11_coup_2 : Cond.fieldLink RX11 44 "LadleKings" "kitchen" "LLadleKings$Kitchen;" ∈ wsX11_coup := by first | exact List.mem_of_getElem? (i := 2) rfl | decide +kernel
theorem mwX11_coup_3 : Cond.fieldLink RX11 67 "LadleKings" "coups" "LLadleKings$Coups;" ∈ wsX11_coup := by first | exact List.mem_of_getElem? (i := 3) rfl | decide +kernel
theorem hdV_yX0_leastLeader_RX0 : yX0_leastLeader.cls = RX0 ∧ yX0_leastLeader.cls ≠ "java/lang/invoke/MethodHandle" ∧ yX0_leastLeader.cls ≠ "java/lang/invoke/VarHandle" ∧ (parseMethodDescriptor yX0_leastLeader.desc).map (fun d => d.parameters.length) = some 1 := by decide +kernel
theorem hdV_yX0_leastBand_RX0 : yX0_leastBand.cls = RX0 ∧ yX0_leastBand.cls ≠ "java/lang/invoke/MethodHandle" ∧ yX0_leastBand.cls ≠ "java/lang/invoke/VarHandle" ∧ (parseMethodDescriptor yX0_leastBand.desc).map (fun d => d.parameters.length) = some 2 := by decide +kernel
set_option maxHeartbeats 8000000 in
set_option maxRecDepth 100000 in
theorem c_X11_coup (l : Launch) (D : va_G) (G : Nat → ClassId) (sz : Nat) (a_p0 : Nat) (a_p0_rules : Nat) (a_p0_state : Nat) (a_p0_tape : Nat) (a_p0_reader : Nat) (a_p0_kitchen : Nat) (a_p0_luck : Nat) (a_p0_plans : Nat) (a_p0_coups : Nat) (a_p0_past : Nat) (a_p0_fairDays : Nat) (a_p0_images : Nat) (a_p0_imageHeld : Nat) (a_p0_sheets : Nat) (a_p0_rules_need : Nat) (a_p0_rules_kind : Nat) (a_p0_rules_first : Nat) (a_p0_rules_second : Nat) (a_p0_rules_after : Nat) (a_p0_state_pieces : Nat) (a_p0_state_friends : Nat) (a_p0_state_spoons : Nat) (a_p0_state_eaten : Nat) (a_p0_state_seen : Nat) (a_p0_kitchen_places : Nat) (a_p0_kitchen_holders : Nat) (a_p0_kitchen_stirred : Nat) (i_p0_latestFault : Int) (i_p0_latestTear : Int) (i_p0_rules_seats : Int) (i_p0_rules_stirs : Int) (v_p0_rules_after : (Int → Int)) (i_p0_state_seenDays : Int) (i_p0_state_bone : Int) (i_p0_state_king : Int) (i_p0_state_days : Int) (v_p0_state_pieces : (Int → Int)) (v_p0_state_friends : (Int → Int)) (v_p0_state_spoons : (Int → Int)) (v_p0_kitchen_places : (Int → Int)) (v_p0_kitchen_holders : (Int → Int)) (v_p0_kitchen_stirred : (Int → Int)) (x1 : Int) (x2 : Int) (x3 : Int) (r : Int) (o_v_p0_kitchen_places : (Int → Int)) (o_v_p0_kitchen_holders : (Int → Int)) (o_v_p0_kitchen_stirred : (Int → Int)) (hf : f_X11_coup i_p0_rules_seats i_p0_rules_stirs v_p0_rules_after v_p0_state_pieces v_p0_state_friends v_p0_state_spoons v_p0_kitchen_places v_p0_kitchen_holders v_p0_kitchen_stirred x1 x2 x3 = some (r, o_v_p0_kitchen_places, o_v_p0_kitchen_holders, o_v_p0_kitchen_stirred)) : Met l yX11_coup wsX11_coup rm_X11_coup (pcG D G [.ref a_p0, .int (Int32.ofInt x1), .int (Int32.ofInt x2), .int (Int32.ofInt x3)] sz [(a_p0, .inr (11, [.ref a_p0_rules, .ref a_p0_state, .ref a_p0_tape, .ref a_p0_reader, .ref a_p0_kitchen, .ref a_p0_luck, .ref a_p0_plans, .ref a_p0_coups, .ref a_p0_past, .ref a_p0_fairDays, .ref a_p0_images, .ref a_p0_imageHeld, .ref a_p0_sheets, .int (Int32.ofInt i_p0_latestFault), .int (Int32.ofInt i_p0_latestTear)])), (a_p0_rules, .inr (6, [.int (Int32.ofInt i_p0_rules_seats), .int (Int32.ofInt i_p0_rules_stirs), .ref a_p0_rules_need, .ref a_p0_rules_kind, .ref a_p0_rules_first, .ref a_p0_rules_second, .ref a_p0_rules_after])), (a_p0_rules_after, .inl (G 1, 35, .inl (zA v_p0_rules_after))), (a_p0_state, .inr (8, [.ref a_p0_state_pieces, .ref a_p0_state_friends, .ref a_p0_state_spoons, .ref a_p0_state_eaten, .ref a_p0_state_seen, .int (Int32.ofInt i_p0_state_seenDays), .int (Int32.ofInt i_p0_state_bone), .int (Int32.ofInt i_p0_state_king), .int (Int32.ofInt i_p0_state_days)])), (a_p0_state_pieces, .inl (G 1, 7, .inl (zA v_p0_state_pieces))), (a_p0_state_friends, .inl (G 1, 7, .inl (zA v_p0_state_friends))), (a_p0_state_spoons, .inl (G 1, 7, .inl (zA v_p0_state_spoons))), (a_p0_kitchen, .inr (2, [.ref a_p0_rules, .ref a_p0_state, .ref a_p0_kitchen_places, .ref a_p0_kitchen_holders, .ref a_p0_kitchen_stirred])), (a_p0_kitchen_places, .inl (G 1, 49, .inl (zA v_p0_kitchen_places))), (a_p0_kitchen_holders, .inl (G 1, 49, .inl (zA v_p0_kitchen_holders))), (a_p0_kitchen_stirred, .inl (G 1, 7, .inl (zA v_p0_kitchen_stirred))), (a_p0_coups, .inr (0, [.ref a_p0_kitchen]))]) (qcI D G (Int32.ofInt r) [(a_p0, .inr (11, [.ref a_p0_rules, .ref a_p0_state, .ref a_p0_tape, .ref a_p0_reader, .ref a_p0_kitchen, .ref a_p0_luck, .ref a_p0_plans, .ref a_p0_coups, .ref a_p0_past, .ref a_p0_fairDays, .ref a_p0_images, .ref a_p0_imageHeld, .ref a_p0_sheets, .int (Int32.ofInt i_p0_latestFault), .int (Int32.ofInt i_p0_latestTear)])), (a_p0_rules, .inr (6, [.int (Int32.ofInt i_p0_rules_seats), .int (Int32.ofInt i_p0_rules_stirs), .ref a_p0_rules_need, .ref a_p0_rules_kind, .ref a_p0_rules_first, .ref a_p0_rules_second, .ref a_p0_rules_after])), (a_p0_rules_after, .inl (G 1, 35, .inl (zA v_p0_rules_after))), (a_p0_state, .inr (8, [.ref a_p0_state_pieces, .ref a_p0_state_friends, .ref a_p0_state_spoons, .ref a_p0_state_eaten, .ref a_p0_state_seen, .int (Int32.ofInt i_p0_state_seenDays), .int (Int32.ofInt i_p0_state_bone), .int (Int32.ofInt i_p0_state_king), .int (Int32.ofInt i_p0_state_days)])), (a_p0_state_pieces, .inl (G 1, 7, .inl (zA v_p0_state_pieces))), (a_p0_state_friends, .inl (G 1, 7, .inl (zA v_p0_state_friends))), (a_p0_state_spoons, .inl (G 1, 7, .inl (zA v_p0_state_spoons))), (a_p0_kitchen, .inr (2, [.ref a_p0_rules, .ref a_p0_state, .ref a_p0_kitchen_places, .ref a_p0_kitchen_holders, .ref a_p0_kitchen_stirred])), (a_p0_kitchen_places, .inl (G 1, 49, .inl (zA o_v_p0_kitchen_places))), (a_p0_kitchen_holders, .inl (G 1, 49, .inl (zA o_v_p0_kitchen_holders))), (a_p0_kitchen_stirred, .inl (G 1, 7, .inl (zA o_v_p0_kitchen_stirred))), (a_p0_coups, .inr (0, [.ref a_p0_kitchen]))] (va_A [(a_p0, .inr (11, [.ref a_p0_rules, .ref a_p0_state, .ref a_p0_tape, .ref a_p0_reader, .ref a_p0_kitchen, .ref a_p0_luck, .ref a_p0_plans, .ref a_p0_coups, .ref a_p0_past, .ref a_p0_fairDays, .ref a_p0_images, .ref a_p0_imageHeld, .ref a_p0_sheets, .int (Int32.ofInt i_p0_latestFault), .int (Int32.ofInt i_p0_latestTear)])), (a_p0_rules, .inr (6, [.int (Int32.ofInt i_p0_rules_seats), .int (Int32.ofInt i_p0_rules_stirs), .ref a_p0_rules_need, .ref a_p0_rules_kind, .ref a_p0_rules_first, .ref a_p0_rules_second, .ref a_p0_rules_after])), (a_p0_rules_after, .inl (G 1, 35, .inl (zA v_p0_rules_after))), (a_p0_state, .inr (8, [.ref a_p0_state_pieces, .ref a_p0_state_friends, .ref a_p0_state_spoons, .ref a_p0_state_eaten, .ref a_p0_state_seen, .int (Int32.ofInt i_p0_state_seenDays), .int (Int32.ofInt i_p0_state_bone), .int (Int32.ofInt i_p0_state_king), .int (Int32.ofInt i_p0_state_days)])), (a_p0_state_pieces, .inl (G 1, 7, .inl (zA v_p0_state_pieces))), (a_p0_state_friends, .inl (G 1, 7, .inl (zA v_p0_state_friends))), (a_p0_state_spoons, .inl (G 1, 7, .inl (zA v_p0_state_spoons))), (a_p0_kitchen, .inr (2, [.ref a_p0_rules, .ref a_p0_state, .ref a_p0_kitchen_places, .ref a_p0_kitchen_holders, .ref a_p0_kitchen_stirred])), (a_p0_kitchen_places, .inl (G 1, 49, .inl (zA v_p0_kitchen_places))), (a_p0_kitchen_holders, .inl (G 1, 49, .inl (zA v_p0_kitchen_holders))), (a_p0_kitchen_stirred, .inl (G 1, 7, .inl (zA v_p0_kitchen_stirred))), (a_p0_coups, .inr (0, [.ref a_p0_kitchen]))] sz)) 0 0 (va_A [(a_p0, .inr (11, [.ref a_p0_rules, .ref a_p0_state, .ref a_p0_tape, .ref a_p0_reader, .ref a_p0_kitchen, .ref a_p0_luck, .ref a_p0_plans, .ref a_p0_coups, .ref a_p0_past, .ref a_p0_fairDays, .ref a_p0_images, .ref a_p0_imageHeld, .ref a_p0_sheets, .int (Int32.ofInt i_p0_latestFault), .int (Int32.ofInt i_p0_latestTear)])), (a_p0_rules, .inr (6, [.int (Int32.ofInt i_p0_rules_seats), .int (Int32.ofInt i_p0_rules_stirs), .ref a_p0_rules_need, .ref a_p0_rules_kind, .ref a_p0_rules_first, .ref a_p0_rules_second, .ref a_p0_rules_after])), (a_p0_rules_after, .inl (G 1, 35, .inl (zA v_p0_rules_after))), (a_p0_state, .inr (8, [.ref a_p0_state_pieces, .ref a_p0_state_friends, .ref a_p0_state_spoons, .ref a_p0_state_eaten, .ref a_p0_state_seen, .int (Int32.ofInt i_p0_state_seenDays), .int (Int32.ofInt i_p0_state_bone), .int (Int32.ofInt i_p0_state_king), .int (Int32.ofInt i_p0_state_days)])), (a_p0_state_pieces, .inl (G 1, 7, .inl (zA v_p0_state_pieces))), (a_p0_state_friends, .inl (G 1, 7, .inl (zA v_p0_state_friends))), (a_p0_state_spoons, .inl (G 1, 7, .inl (zA v_p0_state_spoons))), (a_p0_kitchen, .inr (2, [.ref a_p0_rules, .ref a_p0_state, .ref a_p0_kitchen_places, .ref a_p0_kitchen_holders, .ref a_p0_kitchen_stirred])), (a_p0_kitchen_places, .inl (G 1, 49, .inl (zA v_p0_kitchen_places))), (a_p0_kitchen_holders, .inl (G 1, 49, .inl (zA v_p0_kitchen_holders))), (a_p0_kitchen_stirred, .inl (G 1, 7, .inl (zA v_p0_kitchen_stirred))), (a_p0_coups, .inr (0, [.ref a_p0_kitchen]))] sz) := by
  refine Met.ofW (cc := cX11_coup) (maxL := 5) (ret := (some .int)) (by decide) rfl ?_
  intro p e s m args below meth c s₁ B hml hv
  obtain ⟨rfl, hsz, hP, hK, hD0⟩ := hv
  have hx := B.exec
  have hb := B.bytes
  have hr := B.returns
  have hts := atoms_spec (ws := wsX11_coup) B.pre
  have hown : s.vm.findClass RX11 = some m.cls := findClass_of_methodNamed B.named
  have hlocks := B.notSynchronized
  subst hsz
  have hD := hD0.self (sz := s.heap.size)
  generalize hAe : va_A [(a_p0, .inr (11, [.ref a_p0_rules, .ref a_p0_state, .ref a_p0_tape, .ref a_p0_reader, .ref a_p0_kitchen, .ref a_p0_luck, .ref a_p0_plans, .ref a_p0_coups, .ref a_p0_past, .ref a_p0_fairDays, .ref a_p0_images, .ref a_p0_imageHeld, .ref a_p0_sheets, .int (Int32.ofInt i_p0_latestFault), .int (Int32.ofInt i_p0_latestTear)])), (a_p0_rules, .inr (6, [.int (Int32.ofInt i_p0_rules_seats), .int (Int32.ofInt i_p0_rules_stirs), .ref a_p0_rules_need, .ref a_p0_rules_kind, .ref a_p0_rules_first, .ref a_p0_rules_second, .ref a_p0_rules_after])), (a_p0_rules_after, .inl (G 1, 35, .inl (zA v_p0_rules_after))), (a_p0_state, .inr (8, [.ref a_p0_state_pieces, .ref a_p0_state_friends, .ref a_p0_state_spoons, .ref a_p0_state_eaten, .ref a_p0_state_seen, .int (Int32.ofInt i_p0_state_seenDays), .int (Int32.ofInt i_p0_state_bone), .int (Int32.ofInt i_p0_state_king), .int (Int32.ofInt i_p0_state_days)])), (a_p0_state_pieces, .inl (G 1, 7, .inl (zA v_p0_state_pieces))), (a_p0_state_friends, .inl (G 1, 7, .inl (zA v_p0_state_friends))), (a_p0_state_spoons, .inl (G 1, 7, .inl (zA v_p0_state_spoons))), (a_p0_kitchen, .inr (2, [.ref a_p0_rules, .ref a_p0_state, .ref a_p0_kitchen_places, .ref a_p0_kitchen_holders, .ref a_p0_kitchen_stirred])), (a_p0_kitchen_places, .inl (G 1, 49, .inl (zA v_p0_kitchen_places))), (a_p0_kitchen_holders, .inl (G 1, 49, .inl (zA v_p0_kitchen_holders))), (a_p0_kitchen_stirred, .inl (G 1, 7, .inl (zA v_p0_kitchen_stirred))), (a_p0_coups, .inr (0, [.ref a_p0_kitchen]))] s.heap.size = A at hD ⊢
  have hA : ∀ q : Nat, s.heap.size ≤ q → A q := fun q h => by rw [← hAe]; exact Or.inr h
  clear hAe hD0
  have hS : va_S A s.heap s.heap [] := va_S.rf
  have hl := lv_entry ([.ref a_p0, .int (Int32.ofInt x1), .int (Int32.ofInt x2), .int (Int32.ofInt x3)]) (n := 5) (Nat.le_of_ble_eq_true rfl)
  rw [lg_entry_eq]
  generalize (lg_sl ([.ref a_p0, .int (Int32.ofInt x1), .int (Int32.ofInt x2), .int (Int32.ofInt x3)]) ++ List.replicate (5 - (lg_sl ([.ref a_p0, .int (Int32.ofInt x1), .int (Int32.ofInt x2), .int (Int32.ofInt x3)])).length) Slot.unset).toArray = ls at hl ⊢
  have hl : lv_has ls 5 [(0, .ref a_p0), (1, .int (Int32.ofInt x1)), (2, .int (Int32.ofInt x2)), (3, .int (Int32.ofInt x3))] := hl
  refine W_nameQ (fun Q hQ => ?_)
  obtain ⟨H, hH⟩ : ∃ H, H = s.heap := ⟨_, rfl⟩
  replace hS : va_S A s.heap H [] := by rw [hH]; exact hS
  replace hP : va_P D vwCl [(a_p0, .inr (11, [.ref a_p0_rules, .ref a_p0_state, .ref a_p0_tape, .ref a_p0_reader, .ref a_p0_kitchen, .ref a_p0_luck, .ref a_p0_plans, .ref a_p0_coups, .ref a_p0_past, .ref a_p0_fairDays, .ref a_p0_images, .ref a_p0_imageHeld, .ref a_p0_sheets, .int (Int32.ofInt i_p0_latestFault), .int (Int32.ofInt i_p0_latestTear)])), (a_p0_rules, .inr (6, [.int (Int32.ofInt i_p0_rules_seats), .int (Int32.ofInt i_p0_rules_stirs), .ref a_p0_rules_need, .ref a_p0_rules_kind, .ref a_p0_rules_first, .ref a_p0_rules_second, .ref a_p0_rules_after])), (a_p0_rules_after, .inl (G 1, 35, .inl (zA v_p0_rules_after))), (a_p0_state, .inr (8, [.ref a_p0_state_pieces, .ref a_p0_state_friends, .ref a_p0_state_spoons, .ref a_p0_state_eaten, .ref a_p0_state_seen, .int (Int32.ofInt i_p0_state_seenDays), .int (Int32.ofInt i_p0_state_bone), .int (Int32.ofInt i_p0_state_king), .int (Int32.ofInt i_p0_state_days)])), (a_p0_state_pieces, .inl (G 1, 7, .inl (zA v_p0_state_pieces))), (a_p0_state_friends, .inl (G 1, 7, .inl (zA v_p0_state_friends))), (a_p0_state_spoons, .inl (G 1, 7, .inl (zA v_p0_state_spoons))), (a_p0_kitchen, .inr (2, [.ref a_p0_rules, .ref a_p0_state, .ref a_p0_kitchen_places, .ref a_p0_kitchen_holders, .ref a_p0_kitchen_stirred])), (a_p0_kitchen_places, .inl (G 1, 49, .inl (zA v_p0_kitchen_places))), (a_p0_kitchen_holders, .inl (G 1, 49, .inl (zA v_p0_kitchen_holders))), (a_p0_kitchen_stirred, .inl (G 1, 7, .inl (zA v_p0_kitchen_stirred))), (a_p0_coups, .inr (0, [.ref a_p0_kitchen]))] H := by rw [hH]; exact hP
  rw [← hH]
  clear hH
  unfold f_X11_coup at hf
  refine lv_aload_n hx hb dX11_coup_0 rfl (lv_at hl 0 rfl) ?_
  refine va_get (D := D) (ci := 11) (v := .ref a_p0_rules) (C := RX11) (T := TX11) (N := 15) hx hb hts inX11_coup_X11 hown hK hP 0 rfl rfl 0 (by decide) (hts _ mwX11_coup_1) (fun _ h9 => h9) rfl dX11_coup_1 ?_
  refine lv_iload_n hx hb dX11_coup_4 rfl (lv_at hl 1 rfl) ?_
  have hq := bd1_s hf
  clear hf
  obtain ⟨z1, hcall, hf⟩ := hq
  refine gnI (va_runV (As := [.int (Int32.ofInt x1)]) (rest := []) ⟨hx, hb, hml, hown, hts⟩ (c_X6_hasSeat (l := l) (D := D) (G := G) (sz := H.size) (a_p0 := a_p0_rules) (a_p0_need := a_p0_rules_need) (a_p0_kind := a_p0_rules_kind) (a_p0_first := a_p0_rules_first) (a_p0_second := a_p0_rules_second) (a_p0_after := a_p0_rules_after) (i_p0_seats := i_p0_rules_seats) (i_p0_stirs := i_p0_rules_stirs) (x1 := x1) (r := z1) (hf := hcall)) (cwV 1 hts gX11_coup_X6_hasSeat rfl rfl rfl hdV_yX6_hasSeat_RX6 ⟨Nat.le_of_ble_eq_true rfl, Nat.le_of_ble_eq_true rfl⟩) (preG_V (ci := 6) (q := (RX6, TX6, 7)) (hP.sub [1] rfl) (hD.sub [1] rfl rfl) hK rfl rfl) rfl rfl hl.1 rfl (lv_room (Nat.le_of_ble_eq_true rfl)) dX11_coup_5 ⟨Nat.le_of_ble_eq_true rfl, Nat.le_of_ble_eq_true rfl⟩) hP hD hS hA [1] rfl (fun H locs hP hD hS => ?_)
  clear hcall
  have hr1 := ck_c hf
  replace hf := ck_r hf
  refine lv_if_eq (tgt := 29) hx hb dX11_coup_8 (by decide) (fun cc => ?_) (fun cc => ?_)
  ·
    replace hf := ite_t ((z_eq0 hr1).mp cc) hf
    clear cc
    refine lv_iconst (v := Int32.ofInt (-1 : Int)) hx hb dX11_coup_29 (by decide) ?_
    obtain ⟨rfl, rfl, rfl, rfl⟩ := ou4 hf
    rw [hQ]
    exact W.iret hx hb hr (fun t ht hW => ⟨⟨_, (), rfl, rfl, by rw [ht]; exact hP, va_K.moved hW.alike hK, hD⟩, hS.F ht⟩) hS.2.2 dX11_coup_30
  ·
    replace hf := ite_f (fun h9 => cc ((z_eq0 hr1).mpr h9)) hf
    clear cc
    refine lv_aload_n hx hb dX11_coup_11 rfl (lv_at hl 0 rfl) ?_
    refine va_get (D := D) (ci := 11) (v := .ref a_p0_rules) (C := RX11) (T := TX11) (N := 15) hx hb hts inX11_coup_X11 hown hK hP 0 rfl rfl 0 (by decide) (hts _ mwX11_coup_1) (fun _ h9 => h9) rfl dX11_coup_12 ?_
    refine lv_iload_n hx hb dX11_coup_15 rfl (lv_at hl 2 rfl) ?_
    have hq := bd1_s hf
    clear hf
    obtain ⟨z3, hcall, hf⟩ := hq
    refine gnI (va_runV (As := [.int (Int32.ofInt x2)]) (rest := []) ⟨hx, hb, hml, hown, hts⟩ (c_X6_hasStir (l := l) (D := D) (G := G) (sz := H.size) (a_p0 := a_p0_rules) (a_p0_need := a_p0_rules_need) (a_p0_kind := a_p0_rules_kind) (a_p0_first := a_p0_rules_first) (a_p0_second := a_p0_rules_second) (a_p0_after := a_p0_rules_after) (i_p0_seats := i_p0_rules_seats) (i_p0_stirs := i_p0_rules_stirs) (x1 := x2) (r := z3) (hf := hcall)) (cwV 1 hts gX11_coup_X6_hasStir rfl rfl rfl hdV_yX6_hasStir_RX6 ⟨Nat.le_of_ble_eq_true rfl, Nat.le_of_ble_eq_true rfl⟩) (preG_V (ci := 6) (q := (RX6, TX6, 7)) (hP.sub [1] rfl) (hD.sub [1] rfl rfl) hK rfl rfl) rfl rfl hl.1 rfl (lv_room (Nat.le_of_ble_eq_true rfl)) dX11_coup_16 ⟨Nat.le_of_ble_eq_true rfl, Nat.le_of_ble_eq_true rfl⟩) hP hD hS hA [1] rfl (fun H locs hP hD hS => ?_)
    clear hcall
    have hr3 := ck_c hf
    replace hf := ck_r hf
    refine lv_if_eq (tgt := 29) hx hb dX11_coup_19 (by decide) (fun cc => ?_) (fun cc => ?_)
    ·
      replace hf := ite_t ((z_eq0 hr3).mp cc) hf
      clear cc
      refine lv_iconst (v := Int32.ofInt (-1 : Int)) hx hb dX11_coup_29 (by decide) ?_
      obtain ⟨rfl, rfl, rfl, rfl⟩ := ou4 hf
      rw [hQ]
      exact W.iret hx hb hr (fun t ht hW => ⟨⟨_, (), rfl, rfl, by rw [ht]; exact hP, va_K.moved hW.alike hK, hD⟩, hS.F ht⟩) hS.2.2 dX11_coup_30
    ·
      replace hf := ite_f (fun h9 => cc ((z_eq0 hr3).mpr h9)) hf
      clear cc
      refine lv_iload_n hx hb dX11_coup_22 rfl (lv_at hl 3 rfl) ?_
      have hq := bd1_s hf
      clear hf
      obtain ⟨z5, hcall, hf⟩ := hq
      refine gnI (va_runS (As := [.int (Int32.ofInt x3)]) (rest := []) ⟨hx, hb, hml, hown, hts⟩ (c_X11_isPart (l := l) (D := D) (G := G) (sz := H.size) (x0 := x3) (r := z5) (hf := hcall)) (va_cwS 1 hts gX11_coup_X11_isPart rfl rfl rfl (by decide +kernel) ⟨Nat.le_of_ble_eq_true rfl, Nat.le_of_ble_eq_true rfl⟩) (preG_S (hP.sub [] rfl) (hD.sub [] rfl rfl) hK) rfl rfl hl.1 rfl (lv_room (Nat.le_of_ble_eq_true rfl)) dX11_coup_23 ⟨Nat.le_of_ble_eq_true rfl, Nat.le_of_ble_eq_true rfl⟩) hP hD hS hA [] rfl (fun H locs hP hD hS => ?_)
      clear hcall
      have hr5 := ck_c hf
      replace hf := ck_r hf
      refine lv_if_ne (tgt := 31) hx hb dX11_coup_26 (by decide) (fun cc => ?_) (fun cc => ?_)
      ·
        replace hf := ite_f (fun h9 => cc ((z_eq0 hr5).mpr h9)) hf
        clear cc
        refine lv_aload_n hx hb dX11_coup_31 rfl (lv_at hl 0 rfl) ?_
        refine va_get (D := D) (ci := 11) (v := .ref a_p0_kitchen) (C := RX11) (T := TX11) (N := 15) hx hb hts inX11_coup_X11 hown hK hP 0 rfl rfl 4 (by decide) (hts _ mwX11_coup_2) (fun _ h9 => h9) rfl dX11_coup_32 ?_
        have hq := bd2_s hf
        clear hf
        obtain ⟨w7, w8, hcall, hf⟩ := hq
        refine gsV (ws' := [(a_p0, .inr (11, [.ref a_p0_rules, .ref a_p0_state, .ref a_p0_tape, .ref a_p0_reader, .ref a_p0_kitchen, .ref a_p0_luck, .ref a_p0_plans, .ref a_p0_coups, .ref a_p0_past, .ref a_p0_fairDays, .ref a_p0_images, .ref a_p0_imageHeld, .ref a_p0_sheets, .int (Int32.ofInt i_p0_latestFault), .int (Int32.ofInt i_p0_latestTear)])), (a_p0_rules, .inr (6, [.int (Int32.ofInt i_p0_rules_seats), .int (Int32.ofInt i_p0_rules_stirs), .ref a_p0_rules_need, .ref a_p0_rules_kind, .ref a_p0_rules_first, .ref a_p0_rules_second, .ref a_p0_rules_after])), (a_p0_rules_after, .inl (G 1, 35, .inl (zA v_p0_rules_after))), (a_p0_state, .inr (8, [.ref a_p0_state_pieces, .ref a_p0_state_friends, .ref a_p0_state_spoons, .ref a_p0_state_eaten, .ref a_p0_state_seen, .int (Int32.ofInt i_p0_state_seenDays), .int (Int32.ofInt i_p0_state_bone), .int (Int32.ofInt i_p0_state_king), .int (Int32.ofInt i_p0_state_days)])), (a_p0_state_pieces, .inl (G 1, 7, .inl (zA v_p0_state_pieces))), (a_p0_state_friends, .inl (G 1, 7, .inl (zA v_p0_state_friends))), (a_p0_state_spoons, .inl (G 1, 7, .inl (zA v_p0_state_spoons))), (a_p0_kitchen, .inr (2, [.ref a_p0_rules, .ref a_p0_state, .ref a_p0_kitchen_places, .ref a_p0_kitchen_holders, .ref a_p0_kitchen_stirred])), (a_p0_kitchen_places, .inl (G 1, 49, .inl (zA w7))), (a_p0_kitchen_holders, .inl (G 1, 49, .inl (zA w8))), (a_p0_kitchen_stirred, .inl (G 1, 7, .inl (zA v_p0_kitchen_stirred))), (a_p0_coups, .inr (0, [.ref a_p0_kitchen]))]) (va_runV (As := []) (rest := []) ⟨hx, hb, hml, hown, hts⟩ (c_X2_serveAllKings (l := l) (D := D) (G := G) (sz := H.size) (a_p0 := a_p0_kitchen) (a_p0_rules := a_p0_rules) (a_p0_state := a_p0_state) (a_p0_places := a_p0_kitchen_places) (a_p0_holders := a_p0_kitchen_holders) (a_p0_stirred := a_p0_kitchen_stirred) (a_p0_rules_need := a_p0_rules_need) (a_p0_rules_kind := a_p0_rules_kind) (a_p0_rules_first := a_p0_rules_first) (a_p0_rules_second := a_p0_rules_second) (a_p0_rules_after := a_p0_rules_after) (a_p0_state_pieces := a_p0_state_pieces) (a_p0_state_friends := a_p0_state_friends) (a_p0_state_spoons := a_p0_state_spoons) (a_p0_state_eaten := a_p0_state_eaten) (a_p0_state_seen := a_p0_state_seen) (i_p0_rules_seats := i_p0_rules_seats) (i_p0_rules_stirs := i_p0_rules_stirs) (i_p0_state_seenDays := i_p0_state_seenDays) (i_p0_state_bone := i_p0_state_bone) (i_p0_state_king := i_p0_state_king) (i_p0_state_days := i_p0_state_days) (v_p0_state_friends := v_p0_state_friends) (v_p0_places := v_p0_kitchen_places) (v_p0_holders := v_p0_kitchen_holders) (o_v_p0_places := w7) (o_v_p0_holders := w8) (hf := hcall)) (cwV 0 hts gX11_coup_X2_serveAllKings rfl rfl rfl hdV_yX2_serveAllKings_RX2 ⟨Nat.le_of_ble_eq_true rfl, Nat.le_of_ble_eq_true rfl⟩) (preG_V (ci := 2) (q := (RX2, TX2, 5)) (hP.sub [7, 1, 3, 5, 8, 9] rfl) (hD.sub [7, 1, 3, 5, 8, 9] rfl rfl) hK rfl rfl) rfl rfl hl.1 rfl (lv_room (Nat.le_of_ble_eq_true rfl)) dX11_coup_35 ⟨Nat.le_of_ble_eq_true rfl, Nat.le_of_ble_eq_true rfl⟩) hP hD hS hA [7, 1, 3, 5, 8, 9] rfl rfl rfl (fun H locs hP hD hS => ?_)
        clear hcall
        refine lv_aload_n hx hb dX11_coup_38 rfl (lv_at hl 0 rfl) ?_
        refine va_get (D := D) (ci := 11) (v := .ref a_p0_kitchen) (C := RX11) (T := TX11) (N := 15) hx hb hts inX11_coup_X11 hown hK hP 0 rfl rfl 4 (by decide) (hts _ mwX11_coup_2) (fun _ h9 => h9) rfl dX11_coup_39 ?_
        refine lv_iload_n hx hb dX11_coup_42 rfl (lv_at hl 2 rfl) ?_
        have hq := bd1_s hf
        clear hf
        obtain ⟨w9, hcall, hf⟩ := hq
        refine gsV (ws' := [(a_p0, .inr (11, [.ref a_p0_rules, .ref a_p0_state, .ref a_p0_tape, .ref a_p0_reader, .ref a_p0_kitchen, .ref a_p0_luck, .ref a_p0_plans, .ref a_p0_coups, .ref a_p0_past, .ref a_p0_fairDays, .ref a_p0_images, .ref a_p0_imageHeld, .ref a_p0_sheets, .int (Int32.ofInt i_p0_latestFault), .int (Int32.ofInt i_p0_latestTear)])), (a_p0_rules, .inr (6, [.int (Int32.ofInt i_p0_rules_seats), .int (Int32.ofInt i_p0_rules_stirs), .ref a_p0_rules_need, .ref a_p0_rules_kind, .ref a_p0_rules_first, .ref a_p0_rules_second, .ref a_p0_rules_after])), (a_p0_rules_after, .inl (G 1, 35, .inl (zA v_p0_rules_after))), (a_p0_state, .inr (8, [.ref a_p0_state_pieces, .ref a_p0_state_friends, .ref a_p0_state_spoons, .ref a_p0_state_eaten, .ref a_p0_state_seen, .int (Int32.ofInt i_p0_state_seenDays), .int (Int32.ofInt i_p0_state_bone), .int (Int32.ofInt i_p0_state_king), .int (Int32.ofInt i_p0_state_days)])), (a_p0_state_pieces, .inl (G 1, 7, .inl (zA v_p0_state_pieces))), (a_p0_state_friends, .inl (G 1, 7, .inl (zA v_p0_state_friends))), (a_p0_state_spoons, .inl (G 1, 7, .inl (zA v_p0_state_spoons))), (a_p0_kitchen, .inr (2, [.ref a_p0_rules, .ref a_p0_state, .ref a_p0_kitchen_places, .ref a_p0_kitchen_holders, .ref a_p0_kitchen_stirred])), (a_p0_kitchen_places, .inl (G 1, 49, .inl (zA w7))), (a_p0_kitchen_holders, .inl (G 1, 49, .inl (zA w8))), (a_p0_kitchen_stirred, .inl (G 1, 7, .inl (zA w9))), (a_p0_coups, .inr (0, [.ref a_p0_kitchen]))]) (va_runV (As := [.int (Int32.ofInt x2)]) (rest := []) ⟨hx, hb, hml, hown, hts⟩ (c_X2_stirPot (l := l) (D := D) (G := G) (sz := H.size) (a_p0 := a_p0_kitchen) (a_p0_rules := a_p0_rules) (a_p0_state := a_p0_state) (a_p0_places := a_p0_kitchen_places) (a_p0_holders := a_p0_kitchen_holders) (a_p0_stirred := a_p0_kitchen_stirred) (a_p0_rules_need := a_p0_rules_need) (a_p0_rules_kind := a_p0_rules_kind) (a_p0_rules_first := a_p0_rules_first) (a_p0_rules_second := a_p0_rules_second) (a_p0_rules_after := a_p0_rules_after) (a_p0_state_pieces := a_p0_state_pieces) (a_p0_state_friends := a_p0_state_friends) (a_p0_state_spoons := a_p0_state_spoons) (a_p0_state_eaten := a_p0_state_eaten) (a_p0_state_seen := a_p0_state_seen) (i_p0_rules_seats := i_p0_rules_seats) (i_p0_rules_stirs := i_p0_rules_stirs) (v_p0_rules_after := v_p0_rules_after) (i_p0_state_seenDays := i_p0_state_seenDays) (i_p0_state_bone := i_p0_state_bone) (i_p0_state_king := i_p0_state_king) (i_p0_state_days := i_p0_state_days) (v_p0_state_pieces := v_p0_state_pieces) (v_p0_stirred := v_p0_kitchen_stirred) (x1 := x2) (o_v_p0_stirred := w9) (hf := hcall)) (cwV 1 hts gX11_coup_X2_stirPot rfl rfl rfl hdV_yX2_stirPot_RX2 ⟨Nat.le_of_ble_eq_true rfl, Nat.le_of_ble_eq_true rfl⟩) (preG_V (ci := 2) (q := (RX2, TX2, 5)) (hP.sub [7, 1, 2, 3, 4, 10] rfl) (hD.sub [7, 1, 2, 3, 4, 10] rfl rfl) hK rfl rfl) rfl rfl hl.1 rfl (lv_room (Nat.le_of_ble_eq_true rfl)) dX11_coup_43 ⟨Nat.le_of_ble_eq_true rfl, Nat.le_of_ble_eq_true rfl⟩) hP hD hS hA [7, 1, 2, 3, 4, 10] rfl rfl rfl (fun H locs hP hD hS => ?_)
        clear hcall
        refine lv_aload_n hx hb dX11_coup_46 rfl (lv_at hl 0 rfl) ?_
        refine va_get (D := D) (ci := 11) (v := .ref a_p0_coups) (C := RX11) (T := TX11) (N := 15) hx hb hts inX11_coup_X11 hown hK hP 0 rfl rfl 7 (by decide) (hts _ mwX11_coup_3) (fun _ h9 => h9) rfl dX11_coup_47 ?_
        refine lv_iload_n hx hb dX11_coup_50 rfl (lv_at hl 1 rfl) ?_
        have hq := bd1_s hf
        clear hf
        obtain ⟨z10, hcall, hf⟩ := hq
        refine gnI (va_runV (As := [.int (Int32.ofInt x1)]) (rest := []) ⟨hx, hb, hml, hown, hts⟩ (c_X0_leastLeader (l := l) (D := D) (G := G) (sz := H.size) (a_p0 := a_p0_coups) (a_p0_kitchen := a_p0_kitchen) (a_p0_kitchen_rules := a_p0_rules) (a_p0_kitchen_state := a_p0_state) (a_p0_kitchen_places := a_p0_kitchen_places) (a_p0_kitchen_holders := a_p0_kitchen_holders) (a_p0_kitchen_stirred := a_p0_kitchen_stirred) (a_p0_kitchen_rules_need := a_p0_rules_need) (a_p0_kitchen_rules_kind := a_p0_rules_kind) (a_p0_kitchen_rules_first := a_p0_rules_first) (a_p0_kitchen_rules_second := a_p0_rules_second) (a_p0_kitchen_rules_after := a_p0_rules_after) (a_p0_kitchen_state_pieces := a_p0_state_pieces) (a_p0_kitchen_state_friends := a_p0_state_friends) (a_p0_kitchen_state_spoons := a_p0_state_spoons) (a_p0_kitchen_state_eaten := a_p0_state_eaten) (a_p0_kitchen_state_seen := a_p0_state_seen) (i_p0_kitchen_rules_seats := i_p0_rules_seats) (i_p0_kitchen_rules_stirs := i_p0_rules_stirs) (i_p0_kitchen_state_seenDays := i_p0_state_seenDays) (i_p0_kitchen_state_bone := i_p0_state_bone) (i_p0_kitchen_state_king := i_p0_state_king) (i_p0_kitchen_state_days := i_p0_state_days) (v_p0_kitchen_state_spoons := v_p0_state_spoons) (v_p0_kitchen_places := w7) (v_p0_kitchen_stirred := w9) (x1 := x1) (r := z10) (hf := hcall)) (cwV 1 hts gX11_coup_X0_leastLeader rfl rfl rfl hdV_yX0_leastLeader_RX0 ⟨Nat.le_of_ble_eq_true rfl, Nat.le_of_ble_eq_true rfl⟩) (preG_V (ci := 0) (q := (RX0, TX0, 1)) (hP.sub [11, 7, 1, 3, 6, 8, 10] rfl) (hD.sub [11, 7, 1, 3, 6, 8, 10] rfl rfl) hK rfl rfl) rfl rfl hl.1 rfl (lv_room (Nat.le_of_ble_eq_true rfl)) dX11_coup_51 ⟨Nat.le_of_ble_eq_true rfl, Nat.le_of_ble_eq_true rfl⟩) hP hD hS hA [11, 7, 1, 3, 6, 8, 10] rfl (fun H locs hP hD hS => ?_)
        clear hcall
        refine z_topi (fun z11 ez => ?_)
        replace hf := bnd_s hf ez
        clear ez
        refine lv_istore (lv' := [(4, .int (Int32.ofInt z11)), (0, .ref a_p0), (1, .int (Int32.ofInt x1)), (2, .int (Int32.ofInt x2)), (3, .int (Int32.ofInt x3))]) hx hb dX11_coup_54 hl (by decide) rfl (fun ls hl => ?_)
        refine lv_iload hx hb dX11_coup_56 (lv_at hl 0 rfl) ?_
        refine lv_bipush (v := Int32.ofInt (-4 : Int)) hx hb dX11_coup_58 (by decide) ?_
        have hr11 := ck_c hf
        replace hf := ck_r hf
        refine lv_icmp_eq (tgt := 67) hx hb dX11_coup_60 (by decide) (fun cc => ?_) (fun cc => ?_)
        ·
          replace hf := ite_t ((z_eq hr11 (by decide)).mp cc) hf
          clear cc
          refine lv_iload hx hb dX11_coup_67 (lv_at hl 0 rfl) ?_
          obtain ⟨rfl, rfl, rfl, rfl⟩ := ou4 hf
          rw [hQ]
          exact W.iret hx hb hr (fun t ht hW => ⟨⟨_, (), rfl, rfl, by rw [ht]; exact hP, va_K.moved hW.alike hK, hD⟩, hS.F ht⟩) hS.2.2 dX11_coup_69
        ·
          replace hf := ite_f (fun h9 => cc ((z_eq hr11 (by decide)).mpr h9)) hf
          clear cc
          refine lv_iload_n hx hb dX11_coup_63 rfl (lv_at hl 4 rfl) ?_
          have hr12 := ck_c hf
          replace hf := ck_r hf
          refine lv_if_ne (tgt := 70) hx hb dX11_coup_64 (by decide) (fun cc => ?_) (fun cc => ?_)
          ·
            replace hf := ite_f (fun h9 => cc ((z_eq0 hr12).mpr h9)) hf
            clear cc
            refine lv_aload_n hx hb dX11_coup_70 rfl (lv_at hl 1 rfl) ?_
            refine va_get (D := D) (ci := 11) (v := .ref a_p0_coups) (C := RX11) (T := TX11) (N := 15) hx hb hts inX11_coup_X11 hown hK hP 0 rfl rfl 7 (by decide) (hts _ mwX11_coup_3) (fun _ h9 => h9) rfl dX11_coup_71 ?_
            refine lv_iload_n hx hb dX11_coup_74 rfl (lv_at hl 2 rfl) ?_
            refine lv_iload hx hb dX11_coup_75 (lv_at hl 0 rfl) ?_
            have hq := bd1_s hf
            clear hf
            obtain ⟨z14, hcall, hf⟩ := hq
            refine gnI (va_runV (As := [.int (Int32.ofInt x1), .int (Int32.ofInt z11)]) (rest := []) ⟨hx, hb, hml, hown, hts⟩ (c_X0_leastBand (l := l) (D := D) (G := G) (sz := H.size) (a_p0 := a_p0_coups) (a_p0_kitchen := a_p0_kitchen) (a_p0_kitchen_rules := a_p0_rules) (a_p0_kitchen_state := a_p0_state) (a_p0_kitchen_places := a_p0_kitchen_places) (a_p0_kitchen_holders := a_p0_kitchen_holders) (a_p0_kitchen_stirred := a_p0_kitchen_stirred) (a_p0_kitchen_rules_need := a_p0_rules_need) (a_p0_kitchen_rules_kind := a_p0_rules_kind) (a_p0_kitchen_rules_first := a_p0_rules_first) (a_p0_kitchen_rules_second := a_p0_rules_second) (a_p0_kitchen_rules_after := a_p0_rules_after) (a_p0_kitchen_state_pieces := a_p0_state_pieces) (a_p0_kitchen_state_friends := a_p0_state_friends) (a_p0_kitchen_state_spoons := a_p0_state_spoons) (a_p0_kitchen_state_eaten := a_p0_state_eaten) (a_p0_kitchen_state_seen := a_p0_state_seen) (i_p0_kitchen_rules_seats := i_p0_rules_seats) (i_p0_kitchen_rules_stirs := i_p0_rules_stirs) (i_p0_kitchen_state_seenDays := i_p0_state_seenDays) (i_p0_kitchen_state_bone := i_p0_state_bone) (i_p0_kitchen_state_king := i_p0_state_king) (i_p0_kitchen_state_days := i_p0_state_days) (v_p0_kitchen_state_spoons := v_p0_state_spoons) (v_p0_kitchen_places := w7) (v_p0_kitchen_stirred := w9) (x1 := x1) (x2 := z11) (r := z14) (hf := hcall)) (cwV 2 hts gX11_coup_X0_leastBand rfl rfl rfl hdV_yX0_leastBand_RX0 ⟨Nat.le_of_ble_eq_true rfl, Nat.le_of_ble_eq_true rfl⟩) (preG_V (ci := 0) (q := (RX0, TX0, 1)) (hP.sub [11, 7, 1, 3, 6, 8, 10] rfl) (hD.sub [11, 7, 1, 3, 6, 8, 10] rfl rfl) hK rfl rfl) rfl rfl hl.1 rfl (lv_room (Nat.le_of_ble_eq_true rfl)) dX11_coup_77 ⟨Nat.le_of_ble_eq_true rfl, Nat.le_of_ble_eq_true rfl⟩) hP hD hS hA [11, 7, 1, 3, 6, 8, 10] rfl (fun H locs hP hD hS => ?_)
            clear hcall
            obtain ⟨rfl, rfl, rfl, rfl⟩ := ou4 hf
            rw [hQ]
            exact W.iret hx hb hr (fun t ht hW => ⟨⟨_, (), rfl, rfl, by rw [ht]; exact hP, va_K.moved hW.alike hK, hD⟩, hS.F ht⟩) hS.2.2 dX11_coup_80
          ·
            replace hf := ite_t ((z_eq0 hr12).mp cc) hf
            clear cc
            refine lv_iload hx hb dX11_coup_67 (lv_at hl 0 rfl) ?_
            obtain ⟨rfl, rfl, rfl, rfl⟩ := ou4 hf
            rw [hQ]
            exact W.iret hx hb hr (fun t ht hW => ⟨⟨_, (), rfl, rfl, by rw [ht]; exact hP, va_K.moved hW.alike hK, hD⟩, hS.F ht⟩) hS.2.2 dX11_coup_69
      ·
        replace hf := ite_t ((z_eq0 hr5).mp cc) hf
        clear cc
        refine lv_iconst (v := Int32.ofInt (-1 : Int)) hx hb dX11_coup_29 (by decide) ?_
        obtain ⟨rfl, rfl, rfl, rfl⟩ := ou4 hf
        rw [hQ]
        exact W.iret hx hb hr (fun t ht hW => ⟨⟨_, (), rfl, rfl, by rw [ht]; exact hP, va_K.moved hW.alike hK, hD⟩, hS.F ht⟩) hS.2.2 dX11_coup_30

noncomputable def B_X11_firm_32 (i_p0_rules_seats : Int) (w3 : (Int → Int)) (w4 : (Int → Int)) (w5 : (Int → Int)) (v_p0_state_spoons : (Int → Int)) (again32 : Int → Int → Option (Int × (Int → Int) × (Int → Int) × (Int → Int))) (z8 : Int) (z9 : Int) : Option (Int × (Int → Int) × (Int → Int) × (Int → Int)) := (ck (z_r32 z8) (ck (z_r32 i_p0_rules_seats) (if i_p0_rules_seats ≤ z8 then (some (z9, w3, w4, w5)) else (bd1 (f_X0_leastLeader i_p0_rules_seats v_p0_state_spoons w3 w5 z8) (fun (z13 : Int) => (ck (z_r32 z13) (if z13 = (-4 : Int) then (bnd (z_or z9 (z_shl (1 : Int) z8)) (fun (z16 : Int) => (bnd (z8 + (1 : Int)) (fun (z17 : Int) => (again32 z17 z16))))) else (bnd (z8 + (1 : Int)) (fun (z15 : Int) => (again32 z15 z9))))))))))
noncomputable def f_X11_firm (i_p0_rules_seats : Int) (i_p0_rules_stirs : Int) (v_p0_rules_after : (Int → Int)) (v_p0_state_pieces : (Int → Int)) (v_p0_state_friends : (Int → Int)) (v_p0_state_spoons : (Int → Int)) (v_p0_kitchen_places : (Int → Int)) (v_p0_kitchen_holders : (Int → Int)) (v_p0_kitchen_stirred : (Int → Int)) (x1 : Int) : Option (Int × (Int → Int) × (Int → Int) × (Int → Int)) := (bd1 (f_X6_hasStir i_p0_rules_stirs x1) (fun (z1 : Int) => (ck (z_r32 z1) (if z1 = (0 : Int) then (some ((-1 : Int), v_p0_kitchen_places, v_p0_kitchen_holders, v_p0_kitchen_stirred)) else (bd2 (f_X2_serveAllKings i_p0_rules_seats v_p0_state_friends v_p0_kitchen_places v_p0_kitchen_holders) (fun (w3 : (Int → Int)) (w4 : (Int → Int)) => (bd1 (f_X2_stirPot i_p0_rules_seats v_p0_rules_after v_p0_state_pieces v_p0_kitchen_stirred x1) (fun (w5 : (Int → Int)) => (bnd (0 : Int) (fun (z6 : Int) => (bnd (0 : Int) (fun (z7 : Int) => (lq2 (B_X11_firm_32 i_p0_rules_seats w3 w4 w5 v_p0_state_spoons) 1000 z7 z6)))))))))))))
abbrev rm_X11_firm : Room := { frames := 5, cells := 0, slots := 0, locals := 113 }
theorem inX11_firm_X11 : ∀ w ∈ wsX110, w ∈ wsX11_firm := by first | exact fun w h => List.mem_cons_of_mem _ (List.mem_append_left _ (List.mem_append_left _ (List.mem_append_left _ (List.mem_append_left _ (List.mem_append_right _ h))))) | decide +kernel
theorem mwX11_firm_1 : Cond.fieldLink RX11 10 "LadleKings" "rules" "LLadleKings$Rules;" ∈ wsX11_firm := by first | exact List.mem_of_getElem? (i := 1) rfl | decide +kernel
theorem mwX11_firm_2 : Cond.fieldLink RX11 44 "LadleKings" "kitchen" "LLadleKings$Kitchen;" ∈ wsX11_firm := by first | exact List.mem_of_getElem? (i := 2) rfl | decide +kernel
theorem inX11_firm_X6 : ∀ w ∈ wsX60, w ∈ wsX11_firm := by first | exact fun w h => List.mem_cons_of_mem _ (List.mem_append_left _ (List.mem_append_left _ (List.mem_append_left _ (List.mem_append_right _ h)))) | decide +kernel
theorem mwX11_firm_4 : Cond.fieldLink RX11 130 "LadleKings$Rules" "seats" "I" ∈ wsX11_firm := by first | exact List.mem_of_getElem? (i := 3) rfl | decide +kernel
theorem mwX11_firm_5 : Cond.fieldLink RX11 67 "LadleKings" "coups" "LLadleKings$Coups;" ∈ wsX11_firm := by first | exact List.mem_of_getElem? (i := 4) rfl | decide +kernel
set_option maxHeartbeats 8000000 in
set_option maxRecDepth 100000 in
theorem c_X11_firm (l : Launch) (D : va_G) (G : Nat → ClassId) (sz : Nat) (a_p0 : Nat) (a_p0_rules : Nat) (a_p0_state : Nat) (a_p0_tape : Nat) (a_p0_reader : Nat) (a_p0_kitchen : Nat) (a_p0_luck : Nat) (a_p0_plans : Nat) (a_p0_coups : Nat) (a_p0_past : Nat) (a_p0_fairDays : Nat) (a_p0_images : Nat) (a_p0_imageHeld : Nat) (a_p0_sheets : Nat) (a_p0_rules_need : Nat) (a_p0_rules_kind : Nat) (a_p0_rules_first : Nat) (a_p0_rules_second : Nat) (a_p0_rules_after : Nat) (a_p0_state_pieces : Nat) (a_p0_state_friends : Nat) (a_p0_state_spoons : Nat) (a_p0_state_eaten : Nat) (a_p0_state_seen : Nat) (a_p0_kitchen_places : Nat) (a_p0_kitchen_holders : Nat) (a_p0_kitchen_stirred : Nat) (i_p0_latestFault : Int) (i_p0_latestTear : Int) (i_p0_rules_seats : Int) (i_p0_rules_stirs : Int) (v_p0_rules_after : (Int → Int)) (i_p0_state_seenDays : Int) (i_p0_state_bone : Int) (i_p0_state_king : Int) (i_p0_state_days : Int) (v_p0_state_pieces : (Int → Int)) (v_p0_state_friends : (Int → Int)) (v_p0_state_spoons : (Int → Int)) (v_p0_kitchen_places : (Int → Int)) (v_p0_kitchen_holders : (Int → Int)) (v_p0_kitchen_stirred : (Int → Int)) (x1 : Int) (r : Int) (o_v_p0_kitchen_places : (Int → Int)) (o_v_p0_kitchen_holders : (Int → Int)) (o_v_p0_kitchen_stirred : (Int → Int)) (hf : f_X11_firm i_p0_rules_seats i_p0_rules_stirs v_p0_rules_after v_p0_state_pieces v_p0_state_friends v_p0_state_spoons v_p0_kitchen_places v_p0_kitchen_holders v_p0_kitchen_stirred x1 = some (r, o_v_p0_kitchen_places, o_v_p0_kitchen_holders, o_v_p0_kitchen_stirred)) : Met l yX11_firm wsX11_firm rm_X11_firm (pcG D G [.ref a_p0, .int (Int32.ofInt x1)] sz [(a_p0, .inr (11, [.ref a_p0_rules, .ref a_p0_state, .ref a_p0_tape, .ref a_p0_reader, .ref a_p0_kitchen, .ref a_p0_luck, .ref a_p0_plans, .ref a_p0_coups, .ref a_p0_past, .ref a_p0_fairDays, .ref a_p0_images, .ref a_p0_imageHeld, .ref a_p0_sheets, .int (Int32.ofInt i_p0_latestFault), .int (Int32.ofInt i_p0_latestTear)])), (a_p0_rules, .inr (6, [.int (Int32.ofInt i_p0_rules_seats), .int (Int32.ofInt i_p0_rules_stirs), .ref a_p0_rules_need, .ref a_p0_rules_kind, .ref a_p0_rules_first, .ref a_p0_rules_second, .ref a_p0_rules_after])), (a_p0_rules_after, .inl (G 1, 35, .inl (zA v_p0_rules_after))), (a_p0_state, .inr (8, [.ref a_p0_state_pieces, .ref a_p0_state_friends, .ref a_p0_state_spoons, .ref a_p0_state_eaten, .ref a_p0_state_seen, .int (Int32.ofInt i_p0_state_seenDays), .int (Int32.ofInt i_p0_state_bone), .int (Int32.ofInt i_p0_state_king), .int (Int32.ofInt i_p0_state_days)])), (a_p0_state_pieces, .inl (G 1, 7, .inl (zA v_p0_state_pieces))), (a_p0_state_friends, .inl (G 1, 7, .inl (zA v_p0_state_friends))), (a_p0_state_spoons, .inl (G 1, 7, .inl (zA v_p0_state_spoons))), (a_p0_kitchen, .inr (2, [.ref a_p0_rules, .ref a_p0_state, .ref a_p0_kitchen_places, .ref a_p0_kitchen_holders, .ref a_p0_kitchen_stirred])), (a_p0_kitchen_places, .inl (G 1, 49, .inl (zA v_p0_kitchen_places))), (a_p0_kitchen_holders, .inl (G 1, 49, .inl (zA v_p0_kitchen_holders))), (a_p0_kitchen_stirred, .inl (G 1, 7, .inl (zA v_p0_kitchen_stirred))), (a_p0_coups, .inr (0, [.ref a_p0_kitchen]))]) (qcI D G (Int32.ofInt r) [(a_p0, .inr (11, [.ref a_p0_rules, .ref a_p0_state, .ref a_p0_tape, .ref a_p0_reader, .ref a_p0_kitchen, .ref a_p0_luck, .ref a_p0_plans, .ref a_p0_coups, .ref a_p0_past, .ref a_p0_fairDays, .ref a_p0_images, .ref a_p0_imageHeld, .ref a_p0_sheets, .int (Int32.ofInt i_p0_latestFault), .int (Int32.ofInt i_p0_latestTear)])), (a_p0_rules, .inr (6, [.int (Int32.ofInt i_p0_rules_seats), .int (Int32.ofInt i_p0_rules_stirs), .ref a_p0_rules_need, .ref a_p0_rules_kind, .ref a_p0_rules_first, .ref a_p0_rules_second, .ref a_p0_rules_after])), (a_p0_rules_after, .inl (G 1, 35, .inl (zA v_p0_rules_after))), (a_p0_state, .inr (8, [.ref a_p0_state_pieces, .ref a_p0_state_friends, .ref a_p0_state_spoons, .ref a_p0_state_eaten, .ref a_p0_state_seen, .int (Int32.ofInt i_p0_state_seenDays), .int (Int32.ofInt i_p0_state_bone), .int (Int32.ofInt i_p0_state_king), .int (Int32.ofInt i_p0_state_days)])), (a_p0_state_pieces, .inl (G 1, 7, .inl (zA v_p0_state_pieces))), (a_p0_state_friends, .inl (G 1, 7, .inl (zA v_p0_state_friends))), (a_p0_state_spoons, .inl (G 1, 7, .inl (zA v_p0_state_spoons))), (a_p0_kitchen, .inr (2, [.ref a_p0_rules, .ref a_p0_state, .ref a_p0_kitchen_places, .ref a_p0_kitchen_holders, .ref a_p0_kitchen_stirred])), (a_p0_kitchen_places, .inl (G 1, 49, .inl (zA o_v_p0_kitchen_places))), (a_p0_kitchen_holders, .inl (G 1, 49, .inl (zA o_v_p0_kitchen_holders))), (a_p0_kitchen_stirred, .inl (G 1, 7, .inl (zA o_v_p0_kitchen_stirred))), (a_p0_coups, .inr (0, [.ref a_p0_kitchen]))] (va_A [(a_p0, .inr (11, [.ref a_p0_rules, .ref a_p0_state, .ref a_p0_tape, .ref a_p0_reader, .ref a_p0_kitchen, .ref a_p0_luck, .ref a_p0_plans, .ref a_p0_coups, .ref a_p0_past, .ref a_p0_fairDays, .ref a_p0_images, .ref a_p0_imageHeld, .ref a_p0_sheets, .int (Int32.ofInt i_p0_latestFault), .int (Int32.ofInt i_p0_latestTear)])), (a_p0_rules, .inr (6, [.int (Int32.ofInt i_p0_rules_seats), .int (Int32.ofInt i_p0_rules_stirs), .ref a_p0_rules_need, .ref a_p0_rules_kind, .ref a_p0_rules_first, .ref a_p0_rules_second, .ref a_p0_rules_after])), (a_p0_rules_after, .inl (G 1, 35, .inl (zA v_p0_rules_after))), (a_p0_state, .inr (8, [.ref a_p0_state_pieces, .ref a_p0_state_friends, .ref a_p0_state_spoons, .ref a_p0_state_eaten, .ref a_p0_state_seen, .int (Int32.ofInt i_p0_state_seenDays), .int (Int32.ofInt i_p0_state_bone), .int (Int32.ofInt i_p0_state_king), .int (Int32.ofInt i_p0_state_days)])), (a_p0_state_pieces, .inl (G 1, 7, .inl (zA v_p0_state_pieces))), (a_p0_state_friends, .inl (G 1, 7, .inl (zA v_p0_state_friends))), (a_p0_state_spoons, .inl (G 1, 7, .inl (zA v_p0_state_spoons))), (a_p0_kitchen, .inr (2, [.ref a_p0_rules, .ref a_p0_state, .ref a_p0_kitchen_places, .ref a_p0_kitchen_holders, .ref a_p0_kitchen_stirred])), (a_p0_kitchen_places, .inl (G 1, 49, .inl (zA v_p0_kitchen_places))), (a_p0_kitchen_holders, .inl (G 1, 49, .inl (zA v_p0_kitchen_holders))), (a_p0_kitchen_stirred, .inl (G 1, 7, .inl (zA v_p0_kitchen_stirred))), (a_p0_coups, .inr (0, [.ref a_p0_kitchen]))] sz)) 0 0 (va_A [(a_p0, .inr (11, [.ref a_p0_rules, .ref a_p0_state, .ref a_p0_tape, .ref a_p0_reader, .ref a_p0_kitchen, .ref a_p0_luck, .ref a_p0_plans, .ref a_p0_coups, .ref a_p0_past, .ref a_p0_fairDays, .ref a_p0_images, .ref a_p0_imageHeld, .ref a_p0_sheets, .int (Int32.ofInt i_p0_latestFault), .int (Int32.ofInt i_p0_latestTear)])), (a_p0_rules, .inr (6, [.int (Int32.ofInt i_p0_rules_seats), .int (Int32.ofInt i_p0_rules_stirs), .ref a_p0_rules_need, .ref a_p0_rules_kind, .ref a_p0_rules_first, .ref a_p0_rules_second, .ref a_p0_rules_after])), (a_p0_rules_after, .inl (G 1, 35, .inl (zA v_p0_rules_after))), (a_p0_state, .inr (8, [.ref a_p0_state_pieces, .ref a_p0_state_friends, .ref a_p0_state_spoons, .ref a_p0_state_eaten, .ref a_p0_state_seen, .int (Int32.ofInt i_p0_state_seenDays), .int (Int32.ofInt i_p0_state_bone), .int (Int32.ofInt i_p0_state_king), .int (Int32.ofInt i_p0_state_days)])), (a_p0_state_pieces, .inl (G 1, 7, .inl (zA v_p0_state_pieces))), (a_p0_state_friends, .inl (G 1, 7, .inl (zA v_p0_state_friends))), (a_p0_state_spoons, .inl (G 1, 7, .inl (zA v_p0_state_spoons))), (a_p0_kitchen, .inr (2, [.ref a_p0_rules, .ref a_p0_state, .ref a_p0_kitchen_places, .ref a_p0_kitchen_holders, .ref a_p0_kitchen_stirred])), (a_p0_kitchen_places, .inl (G 1, 49, .inl (zA v_p0_kitchen_places))), (a_p0_kitchen_holders, .inl (G 1, 49, .inl (zA v_p0_kitchen_holders))), (a_p0_kitchen_stirred, .inl (G 1, 7, .inl (zA v_p0_kitchen_stirred))), (a_p0_coups, .inr (0, [.ref a_p0_kitchen]))] sz) := by
  refine Met.ofW (cc := cX11_firm) (maxL := 4) (ret := (some .int)) (by decide) rfl ?_
  intro p e s m args below meth c s₁ B hml hv
  obtain ⟨rfl, hsz, hP, hK, hD0⟩ := hv
  have hx := B.exec
  have hb := B.bytes
  have hr := B.returns
  have hts := atoms_spec (ws := wsX11_firm) B.pre
  have hown : s.vm.findClass RX11 = some m.cls := findClass_of_methodNamed B.named
  have hlocks := B.notSynchronized
  subst hsz
  have hD := hD0.self (sz := s.heap.size)
  generalize hAe : va_A [(a_p0, .inr (11, [.ref a_p0_rules, .ref a_p0_state, .ref a_p0_tape, .ref a_p0_reader, .ref a_p0_kitchen, .ref a_p0_luck, .ref a_p0_plans, .ref a_p0_coups, .ref a_p0_past, .ref a_p0_fairDays, .ref a_p0_images, .ref a_p0_imageHeld, .ref a_p0_sheets, .int (Int32.ofInt i_p0_latestFault), .int (Int32.ofInt i_p0_latestTear)])), (a_p0_rules, .inr (6, [.int (Int32.ofInt i_p0_rules_seats), .int (Int32.ofInt i_p0_rules_stirs), .ref a_p0_rules_need, .ref a_p0_rules_kind, .ref a_p0_rules_first, .ref a_p0_rules_second, .ref a_p0_rules_after])), (a_p0_rules_after, .inl (G 1, 35, .inl (zA v_p0_rules_after))), (a_p0_state, .inr (8, [.ref a_p0_state_pieces, .ref a_p0_state_friends, .ref a_p0_state_spoons, .ref a_p0_state_eaten, .ref a_p0_state_seen, .int (Int32.ofInt i_p0_state_seenDays), .int (Int32.ofInt i_p0_state_bone), .int (Int32.ofInt i_p0_state_king), .int (Int32.ofInt i_p0_state_days)])), (a_p0_state_pieces, .inl (G 1, 7, .inl (zA v_p0_state_pieces))), (a_p0_state_friends, .inl (G 1, 7, .inl (zA v_p0_state_friends))), (a_p0_state_spoons, .inl (G 1, 7, .inl (zA v_p0_state_spoons))), (a_p0_kitchen, .inr (2, [.ref a_p0_rules, .ref a_p0_state, .ref a_p0_kitchen_places, .ref a_p0_kitchen_holders, .ref a_p0_kitchen_stirred])), (a_p0_kitchen_places, .inl (G 1, 49, .inl (zA v_p0_kitchen_places))), (a_p0_kitchen_holders, .inl (G 1, 49, .inl (zA v_p0_kitchen_holders))), (a_p0_kitchen_stirred, .inl (G 1, 7, .inl (zA v_p0_kitchen_stirred))), (a_p0_coups, .inr (0, [.ref a_p0_kitchen]))] s.heap.size = A at hD ⊢
  have hA : ∀ q : Nat, s.heap.size ≤ q → A q := fun q h => by rw [← hAe]; exact Or.inr h
  clear hAe hD0
  have hS : va_S A s.heap s.heap [] := va_S.rf
  have hl := lv_entry ([.ref a_p0, .int (Int32.ofInt x1)]) (n := 4) (Nat.le_of_ble_eq_true rfl)
  rw [lg_entry_eq]
  generalize (lg_sl ([.ref a_p0, .int (Int32.ofInt x1)]) ++ List.replicate (4 - (lg_sl ([.ref a_p0, .int (Int32.ofInt x1)])).length) Slot.unset).toArray = ls at hl ⊢
  have hl : lv_has ls 4 [(0, .ref a_p0), (1, .int (Int32.ofInt x1))] := hl
  refine W_nameQ (fun Q hQ => ?_)
  obtain ⟨H, hH⟩ : ∃ H, H = s.heap := ⟨_, rfl⟩
  replace hS : va_S A s.heap H [] := by rw [hH]; exact hS
  replace hP : va_P D vwCl [(a_p0, .inr (11, [.ref a_p0_rules, .ref a_p0_state, .ref a_p0_tape, .ref a_p0_reader, .ref a_p0_kitchen, .ref a_p0_luck, .ref a_p0_plans, .ref a_p0_coups, .ref a_p0_past, .ref a_p0_fairDays, .ref a_p0_images, .ref a_p0_imageHeld, .ref a_p0_sheets, .int (Int32.ofInt i_p0_latestFault), .int (Int32.ofInt i_p0_latestTear)])), (a_p0_rules, .inr (6, [.int (Int32.ofInt i_p0_rules_seats), .int (Int32.ofInt i_p0_rules_stirs), .ref a_p0_rules_need, .ref a_p0_rules_kind, .ref a_p0_rules_first, .ref a_p0_rules_second, .ref a_p0_rules_after])), (a_p0_rules_after, .inl (G 1, 35, .inl (zA v_p0_rules_after))), (a_p0_state, .inr (8, [.ref a_p0_state_pieces, .ref a_p0_state_friends, .ref a_p0_state_spoons, .ref a_p0_state_eaten, .ref a_p0_state_seen, .int (Int32.ofInt i_p0_state_seenDays), .int (Int32.ofInt i_p0_state_bone), .int (Int32.ofInt i_p0_state_king), .int (Int32.ofInt i_p0_state_days)])), (a_p0_state_pieces, .inl (G 1, 7, .inl (zA v_p0_state_pieces))), (a_p0_state_friends, .inl (G 1, 7, .inl (zA v_p0_state_friends))), (a_p0_state_spoons, .inl (G 1, 7, .inl (zA v_p0_state_spoons))), (a_p0_kitchen, .inr (2, [.ref a_p0_rules, .ref a_p0_state, .ref a_p0_kitchen_places, .ref a_p0_kitchen_holders, .ref a_p0_kitchen_stirred])), (a_p0_kitchen_places, .inl (G 1, 49, .inl (zA v_p0_kitchen_places))), (a_p0_kitchen_holders, .inl (G 1, 49, .inl (zA v_p0_kitchen_holders))), (a_p0_kitchen_stirred, .inl (G 1, 7, .inl (zA v_p0_kitchen_stirred))), (a_p0_coups, .inr (0, [.ref a_p0_kitchen]))] H := by rw [hH]; exact hP
  rw [← hH]
  clear hH
  unfold f_X11_firm at hf
  refine lv_aload_n hx hb dX11_firm_0 rfl (lv_at hl 0 rfl) ?_
  refine va_get (D := D) (ci := 11) (v := .ref a_p0_rules) (C := RX11) (T := TX11) (N := 15) hx hb hts inX11_firm_X11 hown hK hP 0 rfl rfl 0 (by decide) (hts _ mwX11_firm_1) (fun _ h9 => h9) rfl dX11_firm_1 ?_
  refine lv_iload_n hx hb dX11_firm_4 rfl (lv_at hl 1 rfl) ?_
  have hq := bd1_s hf
  clear hf
  obtain ⟨z1, hcall, hf⟩ := hq
  refine gnI (va_runV (As := [.int (Int32.ofInt x1)]) (rest := []) ⟨hx, hb, hml, hown, hts⟩ (c_X6_hasStir (l := l) (D := D) (G := G) (sz := H.size) (a_p0 := a_p0_rules) (a_p0_need := a_p0_rules_need) (a_p0_kind := a_p0_rules_kind) (a_p0_first := a_p0_rules_first) (a_p0_second := a_p0_rules_second) (a_p0_after := a_p0_rules_after) (i_p0_seats := i_p0_rules_seats) (i_p0_stirs := i_p0_rules_stirs) (x1 := x1) (r := z1) (hf := hcall)) (cwV 1 hts gX11_firm_X6_hasStir rfl rfl rfl hdV_yX6_hasStir_RX6 ⟨Nat.le_of_ble_eq_true rfl, Nat.le_of_ble_eq_true rfl⟩) (preG_V (ci := 6) (q := (RX6, TX6, 7)) (hP.sub [1] rfl) (hD.sub [1] rfl rfl) hK rfl rfl) rfl rfl hl.1 rfl (lv_room (Nat.le_of_ble_eq_true rfl)) dX11_firm_5 ⟨Nat.le_of_ble_eq_true rfl, Nat.le_of_ble_eq_true rfl⟩) hP hD hS hA [1] rfl (fun H locs hP hD hS => ?_)
  clear hcall
  have hr1 := ck_c hf
  replace hf := ck_r hf
  refine lv_if_ne (tgt := 13) hx hb dX11_firm_8 (by decide) (fun cc => ?_) (fun cc => ?_)
  ·
    replace hf := ite_f (fun h9 => cc ((z_eq0 hr1).mpr h9)) hf
    clear cc
    refine lv_aload_n hx hb dX11_firm_13 rfl (lv_at hl 0 rfl) ?_
    refine va_get (D := D) (ci := 11) (v := .ref a_p0_kitchen) (C := RX11) (T := TX11) (N := 15) hx hb hts inX11_firm_X11 hown hK hP 0 rfl rfl 4 (by decide) (hts _ mwX11_firm_2) (fun _ h9 => h9) rfl dX11_firm_14 ?_
    have hq := bd2_s hf
    clear hf
    obtain ⟨w3, w4, hcall, hf⟩ := hq
    refine gsV (ws' := [(a_p0, .inr (11, [.ref a_p0_rules, .ref a_p0_state, .ref a_p0_tape, .ref a_p0_reader, .ref a_p0_kitchen, .ref a_p0_luck, .ref a_p0_plans, .ref a_p0_coups, .ref a_p0_past, .ref a_p0_fairDays, .ref a_p0_images, .ref a_p0_imageHeld, .ref a_p0_sheets, .int (Int32.ofInt i_p0_latestFault), .int (Int32.ofInt i_p0_latestTear)])), (a_p0_rules, .inr (6, [.int (Int32.ofInt i_p0_rules_seats), .int (Int32.ofInt i_p0_rules_stirs), .ref a_p0_rules_need, .ref a_p0_rules_kind, .ref a_p0_rules_first, .ref a_p0_rules_second, .ref a_p0_rules_after])), (a_p0_rules_after, .inl (G 1, 35, .inl (zA v_p0_rules_after))), (a_p0_state, .inr (8, [.ref a_p0_state_pieces, .ref a_p0_state_friends, .ref a_p0_state_spoons, .ref a_p0_state_eaten, .ref a_p0_state_seen, .int (Int32.ofInt i_p0_state_seenDays), .int (Int32.ofInt i_p0_state_bone), .int (Int32.ofInt i_p0_state_king), .int (Int32.ofInt i_p0_state_days)])), (a_p0_state_pieces, .inl (G 1, 7, .inl (zA v_p0_state_pieces))), (a_p0_state_friends, .inl (G 1, 7, .inl (zA v_p0_state_friends))), (a_p0_state_spoons, .inl (G 1, 7, .inl (zA v_p0_state_spoons))), (a_p0_kitchen, .inr (2, [.ref a_p0_rules, .ref a_p0_state, .ref a_p0_kitchen_places, .ref a_p0_kitchen_holders, .ref a_p0_kitchen_stirred])), (a_p0_kitchen_places, .inl (G 1, 49, .inl (zA w3))), (a_p0_kitchen_holders, .inl (G 1, 49, .inl (zA w4))), (a_p0_kitchen_stirred, .inl (G 1, 7, .inl (zA v_p0_kitchen_stirred))), (a_p0_coups, .inr (0, [.ref a_p0_kitchen]))]) (va_runV (As := []) (rest := []) ⟨hx, hb, hml, hown, hts⟩ (c_X2_serveAllKings (l := l) (D := D) (G := G) (sz := H.size) (a_p0 := a_p0_kitchen) (a_p0_rules := a_p0_rules) (a_p0_state := a_p0_state) (a_p0_places := a_p0_kitchen_places) (a_p0_holders := a_p0_kitchen_holders) (a_p0_stirred := a_p0_kitchen_stirred) (a_p0_rules_need := a_p0_rules_need) (a_p0_rules_kind := a_p0_rules_kind) (a_p0_rules_first := a_p0_rules_first) (a_p0_rules_second := a_p0_rules_second) (a_p0_rules_after := a_p0_rules_after) (a_p0_state_pieces := a_p0_state_pieces) (a_p0_state_friends := a_p0_state_friends) (a_p0_state_spoons := a_p0_state_spoons) (a_p0_state_eaten := a_p0_state_eaten) (a_p0_state_seen := a_p0_state_seen) (i_p0_rules_seats := i_p0_rules_seats) (i_p0_rules_stirs := i_p0_rules_stirs) (i_p0_state_seenDays := i_p0_state_seenDays) (i_p0_state_bone := i_p0_state_bone) (i_p0_state_king := i_p0_state_king) (i_p0_state_days := i_p0_state_days) (v_p0_state_friends := v_p0_state_friends) (v_p0_places := v_p0_kitchen_places) (v_p0_holders := v_p0_kitchen_holders) (o_v_p0_places := w3) (o_v_p0_holders := w4) (hf := hcall)) (cwV 0 hts gX11_firm_X2_serveAllKings rfl rfl rfl hdV_yX2_serveAllKings_RX2 ⟨Nat.le_of_ble_eq_true rfl, Nat.le_of_ble_eq_true rfl⟩) (preG_V (ci := 2) (q := (RX2, TX2, 5)) (hP.sub [7, 1, 3, 5, 8, 9] rfl) (hD.sub [7, 1, 3, 5, 8, 9] rfl rfl) hK rfl rfl) rfl rfl hl.1 rfl (lv_room (Nat.le_of_ble_eq_true rfl)) dX11_firm_17 ⟨Nat.le_of_ble_eq_true rfl, Nat.le_of_ble_eq_true rfl⟩) hP hD hS hA [7, 1, 3, 5, 8, 9] rfl rfl rfl (fun H locs hP hD hS => ?_)
    clear hcall
    refine lv_aload_n hx hb dX11_firm_20 rfl (lv_at hl 0 rfl) ?_
    refine va_get (D := D) (ci := 11) (v := .ref a_p0_kitchen) (C := RX11) (T := TX11) (N := 15) hx hb hts inX11_firm_X11 hown hK hP 0 rfl rfl 4 (by decide) (hts _ mwX11_firm_2) (fun _ h9 => h9) rfl dX11_firm_21 ?_
    refine lv_iload_n hx hb dX11_firm_24 rfl (lv_at hl 1 rfl) ?_
    have hq := bd1_s hf
    clear hf
    obtain ⟨w5, hcall, hf⟩ := hq
    refine gsV (ws' := [(a_p0, .inr (11, [.ref a_p0_rules, .ref a_p0_state, .ref a_p0_tape, .ref a_p0_reader, .ref a_p0_kitchen, .ref a_p0_luck, .ref a_p0_plans, .ref a_p0_coups, .ref a_p0_past, .ref a_p0_fairDays, .ref a_p0_images, .ref a_p0_imageHeld, .ref a_p0_sheets, .int (Int32.ofInt i_p0_latestFault), .int (Int32.ofInt i_p0_latestTear)])), (a_p0_rules, .inr (6, [.int (Int32.ofInt i_p0_rules_seats), .int (Int32.ofInt i_p0_rules_stirs), .ref a_p0_rules_need, .ref a_p0_rules_kind, .ref a_p0_rules_first, .ref a_p0_rules_second, .ref a_p0_rules_after])), (a_p0_rules_after, .inl (G 1, 35, .inl (zA v_p0_rules_after))), (a_p0_state, .inr (8, [.ref a_p0_state_pieces, .ref a_p0_state_friends, .ref a_p0_state_spoons, .ref a_p0_state_eaten, .ref a_p0_state_seen, .int (Int32.ofInt i_p0_state_seenDays), .int (Int32.ofInt i_p0_state_bone), .int (Int32.ofInt i_p0_state_king), .int (Int32.ofInt i_p0_state_days)])), (a_p0_state_pieces, .inl (G 1, 7, .inl (zA v_p0_state_pieces))), (a_p0_state_friends, .inl (G 1, 7, .inl (zA v_p0_state_friends))), (a_p0_state_spoons, .inl (G 1, 7, .inl (zA v_p0_state_spoons))), (a_p0_kitchen, .inr (2, [.ref a_p0_rules, .ref a_p0_state, .ref a_p0_kitchen_places, .ref a_p0_kitchen_holders, .ref a_p0_kitchen_stirred])), (a_p0_kitchen_places, .inl (G 1, 49, .inl (zA w3))), (a_p0_kitchen_holders, .inl (G 1, 49, .inl (zA w4))), (a_p0_kitchen_stirred, .inl (G 1, 7, .inl (zA w5))), (a_p0_coups, .inr (0, [.ref a_p0_kitchen]))]) (va_runV (As := [.int (Int32.ofInt x1)]) (rest := []) ⟨hx, hb, hml, hown, hts⟩ (c_X2_stirPot (l := l) (D := D) (G := G) (sz := H.size) (a_p0 := a_p0_kitchen) (a_p0_rules := a_p0_rules) (a_p0_state := a_p0_state) (a_p0_places := a_p0_kitchen_places) (a_p0_holders := a_p0_kitchen_holders) (a_p0_stirred := a_p0_kitchen_stirred) (a_p0_rules_need := a_p0_rules_need) (a_p0_rules_kind := a_p0_rules_kind) (a_p0_rules_first := a_p0_rules_first) (a_p0_rules_second := a_p0_rules_second) (a_p0_rules_after := a_p0_rules_after) (a_p0_state_pieces := a_p0_state_pieces) (a_p0_state_friends := a_p0_state_friends) (a_p0_state_spoons := a_p0_state_spoons) (a_p0_state_eaten := a_p0_state_eaten) (a_p0_state_seen := a_p0_state_seen) (i_p0_rules_seats := i_p0_rules_seats) (i_p0_rules_stirs := i_p0_rules_stirs) (v_p0_rules_after := v_p0_rules_after) (i_p0_state_seenDays := i_p0_state_seenDays) (i_p0_state_bone := i_p0_state_bone) (i_p0_state_king := i_p0_state_king) (i_p0_state_days := i_p0_state_days) (v_p0_state_pieces := v_p0_state_pieces) (v_p0_stirred := v_p0_kitchen_stirred) (x1 := x1) (o_v_p0_stirred := w5) (hf := hcall)) (cwV 1 hts gX11_firm_X2_stirPot rfl rfl rfl hdV_yX2_stirPot_RX2 ⟨Nat.le_of_ble_eq_true rfl, Nat.le_of_ble_eq_true rfl⟩) (preG_V (ci := 2) (q := (RX2, TX2, 5)) (hP.sub [7, 1, 2, 3, 4, 10] rfl) (hD.sub [7, 1, 2, 3, 4, 10] rfl rfl) hK rfl rfl) rfl rfl hl.1 rfl (lv_room (Nat.le_of_ble_eq_true rfl)) dX11_firm_25 ⟨Nat.le_of_ble_eq_true rfl, Nat.le_of_ble_eq_true rfl⟩) hP hD hS hA [7, 1, 2, 3, 4, 10] rfl rfl rfl (fun H locs hP hD hS => ?_)
    clear hcall
    refine lv_iconst (v := Int32.ofInt (0 : Int)) hx hb dX11_firm_28 (by decide) ?_
    refine z_topi (fun z6 ez => ?_)
    replace hf := bnd_s hf ez
    clear ez
    refine lv_istore_n (lv' := [(2, .int (Int32.ofInt z6)), (0, .ref a_p0), (1, .int (Int32.ofInt x1))]) hx hb dX11_firm_29 rfl hl (by decide) rfl (fun ls hl => ?_)
    refine lv_iconst (v := Int32.ofInt (0 : Int)) hx hb dX11_firm_30 (by decide) ?_
    refine z_topi (fun z7 ez => ?_)
    replace hf := bnd_s hf ez
    clear ez
    refine lv_istore_n (lv' := [(3, .int (Int32.ofInt z7)), (2, .int (Int32.ofInt z6)), (0, .ref a_p0), (1, .int (Int32.ofInt x1))]) hx hb dX11_firm_31 rfl hl (by decide) rfl (fun ls hl => ?_)
    have hq := lq2_i hf
    clear hf
    obtain ⟨B10, eB10, NB10, hf⟩ := hq
    have hB10 : ∀ (n : Nat) (z8 : Int) (z9 : Int) (ls : Array Slot) (H : Heap) (locs : List Loc), lv_has ls 4 [(3, .int (Int32.ofInt z8)), (2, .int (Int32.ofInt z9)), (0, .ref a_p0)] → va_P D vwCl [(a_p0, .inr (11, [.ref a_p0_rules, .ref a_p0_state, .ref a_p0_tape, .ref a_p0_reader, .ref a_p0_kitchen, .ref a_p0_luck, .ref a_p0_plans, .ref a_p0_coups, .ref a_p0_past, .ref a_p0_fairDays, .ref a_p0_images, .ref a_p0_imageHeld, .ref a_p0_sheets, .int (Int32.ofInt i_p0_latestFault), .int (Int32.ofInt i_p0_latestTear)])), (a_p0_rules, .inr (6, [.int (Int32.ofInt i_p0_rules_seats), .int (Int32.ofInt i_p0_rules_stirs), .ref a_p0_rules_need, .ref a_p0_rules_kind, .ref a_p0_rules_first, .ref a_p0_rules_second, .ref a_p0_rules_after])), (a_p0_rules_after, .inl (G 1, 35, .inl (zA v_p0_rules_after))), (a_p0_state, .inr (8, [.ref a_p0_state_pieces, .ref a_p0_state_friends, .ref a_p0_state_spoons, .ref a_p0_state_eaten, .ref a_p0_state_seen, .int (Int32.ofInt i_p0_state_seenDays), .int (Int32.ofInt i_p0_state_bone), .int (Int32.ofInt i_p0_state_king), .int (Int32.ofInt i_p0_state_days)])), (a_p0_state_pieces, .inl (G 1, 7, .inl (zA v_p0_state_pieces))), (a_p0_state_friends, .inl (G 1, 7, .inl (zA v_p0_state_friends))), (a_p0_state_spoons, .inl (G 1, 7, .inl (zA v_p0_state_spoons))), (a_p0_kitchen, .inr (2, [.ref a_p0_rules, .ref a_p0_state, .ref a_p0_kitchen_places, .ref a_p0_kitchen_holders, .ref a_p0_kitchen_stirred])), (a_p0_kitchen_places, .inl (G 1, 49, .inl (zA w3))), (a_p0_kitchen_holders, .inl (G 1, 49, .inl (zA w4))), (a_p0_kitchen_stirred, .inl (G 1, 7, .inl (zA w5))), (a_p0_coups, .inr (0, [.ref a_p0_kitchen]))] H → va_D A [(a_p0, .inr (11, [.ref a_p0_rules, .ref a_p0_state, .ref a_p0_tape, .ref a_p0_reader, .ref a_p0_kitchen, .ref a_p0_luck, .ref a_p0_plans, .ref a_p0_coups, .ref a_p0_past, .ref a_p0_fairDays, .ref a_p0_images, .ref a_p0_imageHeld, .ref a_p0_sheets, .int (Int32.ofInt i_p0_latestFault), .int (Int32.ofInt i_p0_latestTear)])), (a_p0_rules, .inr (6, [.int (Int32.ofInt i_p0_rules_seats), .int (Int32.ofInt i_p0_rules_stirs), .ref a_p0_rules_need, .ref a_p0_rules_kind, .ref a_p0_rules_first, .ref a_p0_rules_second, .ref a_p0_rules_after])), (a_p0_rules_after, .inl (G 1, 35, .inl (zA v_p0_rules_after))), (a_p0_state, .inr (8, [.ref a_p0_state_pieces, .ref a_p0_state_friends, .ref a_p0_state_spoons, .ref a_p0_state_eaten, .ref a_p0_state_seen, .int (Int32.ofInt i_p0_state_seenDays), .int (Int32.ofInt i_p0_state_bone), .int (Int32.ofInt i_p0_state_king), .int (Int32.ofInt i_p0_state_days)])), (a_p0_state_pieces, .inl (G 1, 7, .inl (zA v_p0_state_pieces))), (a_p0_state_friends, .inl (G 1, 7, .inl (zA v_p0_state_friends))), (a_p0_state_spoons, .inl (G 1, 7, .inl (zA v_p0_state_spoons))), (a_p0_kitchen, .inr (2, [.ref a_p0_rules, .ref a_p0_state, .ref a_p0_kitchen_places, .ref a_p0_kitchen_holders, .ref a_p0_kitchen_stirred])), (a_p0_kitchen_places, .inl (G 1, 49, .inl (zA w3))), (a_p0_kitchen_holders, .inl (G 1, 49, .inl (zA w4))), (a_p0_kitchen_stirred, .inl (G 1, 7, .inl (zA w5))), (a_p0_coups, .inr (0, [.ref a_p0_kitchen]))] → va_S A s.heap H locs → lq2 B10 n z8 z9 = some (r, o_v_p0_kitchen_places, o_v_p0_kitchen_holders, o_v_p0_kitchen_stirred) → W p l e rm_X11_firm s m ([.ref a_p0, .int (Int32.ofInt x1)] : List Value).toArray below meth c H locs 0 0 Q (F0 m 32 ls []) := by
      clear hf hl hP hD hS
      intro n
      induction n with
      | zero =>
        intro z8 z9 ls H locs hl hP hD hS hf
        exact (lq2_0 hf).elim
      | succ n ih32 =>
        intro z8 z9 ls H locs hl hP hD hS hf
        replace hf := lq2_s eB10 hf
        unfold B_X11_firm_32 at hf
        refine lv_iload_n hx hb dX11_firm_32 rfl (lv_at hl 0 rfl) ?_
        refine lv_aload_n hx hb dX11_firm_33 rfl (lv_at hl 2 rfl) ?_
        refine va_get (D := D) (ci := 11) (v := .ref a_p0_rules) (C := RX11) (T := TX11) (N := 15) hx hb hts inX11_firm_X11 hown hK hP 0 rfl rfl 0 (by decide) (hts _ mwX11_firm_1) (fun _ h9 => h9) rfl dX11_firm_34 ?_
        refine va_get (D := D) (ci := 6) (v := .int (Int32.ofInt i_p0_rules_seats)) (C := RX6) (T := TX6) (N := 7) hx hb hts inX11_firm_X6 hown hK hP 1 rfl rfl 0 (by decide) (hts _ mwX11_firm_4) (fun _ h9 => h9) rfl dX11_firm_37 ?_
        have hr10 := ck_c hf
        replace hf := ck_r hf
        have hr11 := ck_c hf
        replace hf := ck_r hf
        refine lv_icmp_ge (tgt := 68) hx hb dX11_firm_40 (by decide) (fun cc => ?_) (fun cc => ?_)
        ·
          replace hf := ite_t ((z_le hr11 hr10).mp cc) hf
          clear cc
          refine lv_iload_n hx hb dX11_firm_68 rfl (lv_at hl 1 rfl) ?_
          obtain ⟨rfl, rfl, rfl, rfl⟩ := ou4 hf
          rw [hQ]
          exact W.iret hx hb hr (fun t ht hW => ⟨⟨_, (), rfl, rfl, by rw [ht]; exact hP, va_K.moved hW.alike hK, hD⟩, hS.F ht⟩) hS.2.2 dX11_firm_69
        ·
          replace hf := ite_f (fun h9 => cc ((z_le hr11 hr10).mpr h9)) hf
          clear cc
          refine lv_aload_n hx hb dX11_firm_43 rfl (lv_at hl 2 rfl) ?_
          refine va_get (D := D) (ci := 11) (v := .ref a_p0_coups) (C := RX11) (T := TX11) (N := 15) hx hb hts inX11_firm_X11 hown hK hP 0 rfl rfl 7 (by decide) (hts _ mwX11_firm_5) (fun _ h9 => h9) rfl dX11_firm_44 ?_
          refine lv_iload_n hx hb dX11_firm_47 rfl (lv_at hl 0 rfl) ?_
          have hq := bd1_s hf
          clear hf
          obtain ⟨z13, hcall, hf⟩ := hq
          refine gnI (va_runV (As := [.int (Int32.ofInt z8)]) (rest := []) ⟨hx, hb, hml, hown, hts⟩ (c_X0_leastLeader (l := l) (D := D) (G := G) (sz := H.size) (a_p0 := a_p0_coups) (a_p0_kitchen := a_p0_kitchen) (a_p0_kitchen_rules := a_p0_rules) (a_p0_kitchen_state := a_p0_state) (a_p0_kitchen_places := a_p0_kitchen_places) (a_p0_kitchen_holders := a_p0_kitchen_holders) (a_p0_kitchen_stirred := a_p0_kitchen_stirred) (a_p0_kitchen_rules_need := a_p0_rules_need) (a_p0_kitchen_rules_kind := a_p0_rules_kind) (a_p0_kitchen_rules_first := a_p0_rules_first) (a_p0_kitchen_rules_second := a_p0_rules_second) (a_p0_kitchen_rules_after := a_p0_rules_after) (a_p0_kitchen_state_pieces := a_p0_state_pieces) (a_p0_kitchen_state_friends := a_p0_state_friends) (a_p0_kitchen_state_spoons := a_p0_state_spoons) (a_p0_kitchen_state_eaten := a_p0_state_eaten) (a_p0_kitchen_state_seen := a_p0_state_seen) (i_p0_kitchen_rules_seats := i_p0_rules_seats) (i_p0_kitchen_rules_stirs := i_p0_rules_stirs) (i_p0_kitchen_state_seenDays := i_p0_state_seenDays) (i_p0_kitchen_state_bone := i_p0_state_bone) (i_p0_kitchen_state_king := i_p0_state_king) (i_p0_kitchen_state_days := i_p0_state_days) (v_p0_kitchen_state_spoons := v_p0_state_spoons) (v_p0_kitchen_places := w3) (v_p0_kitchen_stirred := w5) (x1 := z8) (r := z13) (hf := hcall)) (cwV 1 hts gX11_firm_X0_leastLeader rfl rfl rfl hdV_yX0_leastLeader_RX0 ⟨Nat.le_of_ble_eq_true rfl, Nat.le_of_ble_eq_true rfl⟩) (preG_V (ci := 0) (q := (RX0, TX0, 1)) (hP.sub [11, 7, 1, 3, 6, 8, 10] rfl) (hD.sub [11, 7, 1, 3, 6, 8, 10] rfl rfl) hK rfl rfl) rfl rfl hl.1 rfl (lv_room (Nat.le_of_ble_eq_true rfl)) dX11_firm_48 ⟨Nat.le_of_ble_eq_true rfl, Nat.le_of_ble_eq_true rfl⟩) hP hD hS hA [11, 7, 1, 3, 6, 8, 10] rfl (fun H locs hP hD hS => ?_)
          clear hcall
          refine lv_bipush (v := Int32.ofInt (-4 : Int)) hx hb dX11_firm_51 (by decide) ?_
          have hr13 := ck_c hf
          replace hf := ck_r hf
          refine lv_icmp_ne (tgt := 62) hx hb dX11_firm_53 (by decide) (fun cc => ?_) (fun cc => ?_)
          ·
            replace hf := ite_f (fun h9 => cc ((z_eq hr13 (by decide)).mpr h9)) hf
            clear cc
            obtain ⟨z15, ez⟩ : ∃ y : Int, y = (z8 + (1 : Int)) := ⟨_, rfl⟩
            replace hf := bnd_s hf ez
            refine lv_iinc (v := Int32.ofInt z15) (lv' := [(3, .int (Int32.ofInt z15)), (2, .int (Int32.ofInt z9)), (0, .ref a_p0)]) hx hb dX11_firm_62 hl (k := 0) rfl (by rw [ez]; exact (Int32.ofInt_add _ _).symm) (by decide) rfl (fun ls hl => ?_)
            clear ez
            refine lv_goto (tgt := 32) hx hb dX11_firm_65 (by decide) ?_
            exact ih32 _ _ _ _ _ (lv_sub hl [0, 1, 2] rfl) hP hD hS hf
          ·
            replace hf := ite_t ((z_eq hr13 (by decide)).mp cc) hf
            clear cc
            refine lv_iload_n hx hb dX11_firm_56 rfl (lv_at hl 1 rfl) ?_
            refine lv_iconst (v := Int32.ofInt (1 : Int)) hx hb dX11_firm_57 (by decide) ?_
            refine lv_iload_n hx hb dX11_firm_58 rfl (lv_at hl 0 rfl) ?_
            refine lv_ishl hx hb dX11_firm_59 (z_ci (z_shl_e (1 : Int) z8) ?_)
            refine lv_ior hx hb dX11_firm_60 (z_ci (z_or_e z9 (z_shl (1 : Int) z8)) ?_)
            refine z_topi (fun z16 ez => ?_)
            replace hf := bnd_s hf ez
            clear ez
            refine lv_istore_n (lv' := [(2, .int (Int32.ofInt z16)), (3, .int (Int32.ofInt z8)), (0, .ref a_p0)]) hx hb dX11_firm_61 rfl hl (by decide) rfl (fun ls hl => ?_)
            obtain ⟨z17, ez⟩ : ∃ y : Int, y = (z8 + (1 : Int)) := ⟨_, rfl⟩
            replace hf := bnd_s hf ez
            refine lv_iinc (v := Int32.ofInt z17) (lv' := [(3, .int (Int32.ofInt z17)), (2, .int (Int32.ofInt z16)), (0, .ref a_p0)]) hx hb dX11_firm_62 hl (k := 1) rfl (by rw [ez]; exact (Int32.ofInt_add _ _).symm) (by decide) rfl (fun ls hl => ?_)
            clear ez
            refine lv_goto (tgt := 32) hx hb dX11_firm_65 (by decide) ?_
            exact ih32 _ _ _ _ _ (lv_sub hl [0, 1, 2] rfl) hP hD hS hf
    exact hB10 _ _ _ _ _ _ (lv_sub hl [0, 1, 2] rfl) hP hD hS hf
  ·
    replace hf := ite_t ((z_eq0 hr1).mp cc) hf
    clear cc
    refine lv_iconst (v := Int32.ofInt (-1 : Int)) hx hb dX11_firm_11 (by decide) ?_
    obtain ⟨rfl, rfl, rfl, rfl⟩ := ou4 hf
    rw [hQ]
    exact W.iret hx hb hr (fun t ht hW => ⟨⟨_, (), rfl, rfl, by rw [ht]; exact hP, va_K.moved hW.alike hK, hD⟩, hS.F ht⟩) hS.2.2 dX11_firm_12
