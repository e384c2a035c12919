noncomputable def f_X11_torn (i_p0_latestTear : Int) : Option (Int) := (some i_p0_latestTear)
abbrev rm_X11_torn : Room := { frames := 0, cells := 0, slots := 0, locals := 0 }
theorem inX11_torn_X11 : ∀ w ∈ wsX110, w ∈ wsX11_torn := by first | exact fun w h => List.mem_cons_of_mem _ (List.mem_append_right _ h) | decide +kernel
theorem mwX11_torn_1 : Cond.fieldLink RX11 103 "LadleKings" "latestTear" "I" ∈ wsX11_torn := by first | exact List.mem_of_getElem? (i := 1) rfl | decide +kernel
set_option maxHeartbeats 8000000 in
set_option maxRecDepth 100000 in
theorem c_X11_torn (l : Launch) (D : va_G) (G : Nat → ClassId) (sz : Nat) (a_p0 : Nat) (a_p0_rules : Nat) (a_p0_state : Nat) (a_p0_tape : Nat) (a_p0_reader : Nat) (a_p0_kitchen : Nat) (a_p0_luck : Nat) (a_p0_plans : Nat) (a_p0_coups : Nat) (a_p0_past : Nat) (a_p0_fairDays : Nat) (a_p0_images : Nat) (a_p0_imageHeld : Nat) (a_p0_sheets : Nat) (i_p0_latestFault : Int) (i_p0_latestTear : Int) (r : Int) (hf : f_X11_torn i_p0_latestTear = some r) : Met l yX11_torn wsX11_torn rm_X11_torn (pcG D G [.ref a_p0] sz [(a_p0, .inr (11, [.ref a_p0_rules, .ref a_p0_state, .ref a_p0_tape, .ref a_p0_reader, .ref a_p0_kitchen, .ref a_p0_luck, .ref a_p0_plans, .ref a_p0_coups, .ref a_p0_past, .ref a_p0_fairDays, .ref a_p0_images, .ref a_p0_imageHeld, .ref a_p0_sheets, .int (Int32.ofInt i_p0_latestFault), .int (Int32.ofInt i_p0_latestTear)]))]) (qcI D G (Int32.ofInt r) [(a_p0, .inr (11, [.ref a_p0_rules, .ref a_p0_state, .ref a_p0_tape, .ref a_p0_reader, .ref a_p0_kitchen, .ref a_p0_luck, .ref a_p0_plans, .ref a_p0_coups, .ref a_p0_past, .ref a_p0_fairDays, .ref a_p0_images, .ref a_p0_imageHeld, .ref a_p0_sheets, .int (Int32.ofInt i_p0_latestFault), .int (Int32.ofInt i_p0_latestTear)]))] (va_A [(a_p0, .inr (11, [.ref a_p0_rules, .ref a_p0_state, .ref a_p0_tape, .ref a_p0_reader, .ref a_p0_kitchen, .ref a_p0_luck, .ref a_p0_plans, .ref a_p0_coups, .ref a_p0_past, .ref a_p0_fairDays, .ref a_p0_images, .ref a_p0_imageHeld, .ref a_p0_sheets, .int (Int32.ofInt i_p0_latestFault), .int (Int32.ofInt i_p0_latestTear)]))] sz)) 0 0 (va_A [(a_p0, .inr (11, [.ref a_p0_rules, .ref a_p0_state, .ref a_p0_tape, .ref a_p0_reader, .ref a_p0_kitchen, .ref a_p0_luck, .ref a_p0_plans, .ref a_p0_coups, .ref a_p0_past, .ref a_p0_fairDays, .ref a_p0_images, .ref a_p0_imageHeld, .ref a_p0_sheets, .int (Int32.ofInt i_p0_latestFault), .int (Int32.ofInt i_p0_latestTear)]))] sz) := by
  refine Met.ofW (cc := cX11_torn) (maxL := 1) (ret := (some .int)) (by decide) rfl ?_
  intro p e s m args below meth c s₁ B hml hv
  obtain ⟨rfl, hsz, hP, hK, hD0⟩ := hv
  have hx := B.exec
  have hb := B.bytes
  have hr := B.returns
  have hts := atoms_spec (ws := wsX11_torn) B.pre
  have hown : s.vm.findClass RX11 = some m.cls := findClass_of_methodNamed B.named
  have hlocks := B.notSynchronized
  subst hsz
  have hD := hD0.self (sz := s.heap.size)
  generalize hAe : va_A [(a_p0, .inr (11, [.ref a_p0_rules, .ref a_p0_state, .ref a_p0_tape, .ref a_p0_reader, .ref a_p0_kitchen, .ref a_p0_luck, .ref a_p0_plans, .ref a_p0_coups, .ref a_p0_past, .ref a_p0_fairDays, .ref a_p0_images, .ref a_p0_imageHeld, .ref a_p0_sheets, .int (Int32.ofInt i_p0_latestFault), .int (Int32.ofInt i_p0_latestTear)]))] s.heap.size = A at hD ⊢
  have hA : ∀ q : Nat, s.heap.size ≤ q → A q := fun q h => by rw [← hAe]; exact Or.inr h
  clear hAe hD0
  have hS : va_S A s.heap s.heap [] := va_S.rf
  have hl := lv_entry ([.ref a_p0]) (n := 1) (Nat.le_of_ble_eq_true rfl)
  rw [lg_entry_eq]
  generalize (lg_sl ([.ref a_p0]) ++ List.replicate (1 - (lg_sl ([.ref a_p0])).length) Slot.unset).toArray = ls at hl ⊢
  have hl : lv_has ls 1 [(0, .ref a_p0)] := hl
  refine W_nameQ (fun Q hQ => ?_)
  obtain ⟨H, hH⟩ : ∃ H, H = s.heap := ⟨_, rfl⟩
  replace hS : va_S A s.heap H [] := by rw [hH]; exact hS
  replace hP : va_P D vwCl [(a_p0, .inr (11, [.ref a_p0_rules, .ref a_p0_state, .ref a_p0_tape, .ref a_p0_reader, .ref a_p0_kitchen, .ref a_p0_luck, .ref a_p0_plans, .ref a_p0_coups, .ref a_p0_past, .ref a_p0_fairDays, .ref a_p0_images, .ref a_p0_imageHeld, .ref a_p0_sheets, .int (Int32.ofInt i_p0_latestFault), .int (Int32.ofInt i_p0_latestTear)]))] H := by rw [hH]; exact hP
  rw [← hH]
  clear hH
  unfold f_X11_torn at hf
  refine lv_aload_n hx hb dX11_torn_0 rfl (lv_at hl 0 rfl) ?_
  refine va_get (D := D) (ci := 11) (v := .int (Int32.ofInt i_p0_latestTear)) (C := RX11) (T := TX11) (N := 15) hx hb hts inX11_torn_X11 hown hK hP 0 rfl rfl 14 (by decide) (hts _ mwX11_torn_1) (fun _ h9 => h9) rfl dX11_torn_1 ?_
  obtain rfl := ou1 hf
  rw [hQ]
  exact W.iret hx hb hr (fun t ht hW => ⟨⟨_, (), rfl, rfl, by rw [ht]; exact hP, va_K.moved hW.alike hK, hD⟩, hS.F ht⟩) hS.2.2 dX11_torn_4

noncomputable def B_X11_piecesInPot_4 (i_p0_rules_seats : Int) (v_p0_state_pieces : (Int → Int)) (again4 : Int → Int → Option (Int)) (z3 : Int) (z4 : Int) : Option (Int) := (ck (z_r32 z3) (ck (z_r32 i_p0_rules_seats) (if i_p0_rules_seats ≤ z3 then (some z4) else (ck (z_ix z3 7) (bnd (z4 + (v_p0_state_pieces z3)) (fun (z8 : Int) => (bnd (z3 + (1 : Int)) (fun (z9 : Int) => (again4 z9 z8)))))))))
noncomputable def f_X11_piecesInPot (i_p0_rules_seats : Int) (v_p0_state_pieces : (Int → Int)) : Option (Int) := (bnd (0 : Int) (fun (z1 : Int) => (bnd (0 : Int) (fun (z2 : Int) => (lq2 (B_X11_piecesInPot_4 i_p0_rules_seats v_p0_state_pieces) 1000 z2 z1)))))
abbrev rm_X11_piecesInPot : Room := { frames := 0, cells := 0, slots := 0, locals := 0 }
theorem inX11_piecesInPot_X11 : ∀ w ∈ wsX110, w ∈ wsX11_piecesInPot := by first | exact fun w h => List.mem_cons_of_mem _ (List.mem_append_left _ (List.mem_append_left _ (List.mem_append_right _ h))) | decide +kernel
theorem mwX11_piecesInPot_1 : Cond.fieldLink RX11 10 "LadleKings" "rules" "LLadleKings$Rules;" ∈ wsX11_piecesInPot := by first | exact List.mem_of_getElem? (i := 1) rfl | decide +kernel
theorem inX11_piecesInPot_X6 : ∀ w ∈ wsX60, w ∈ wsX11_piecesInPot := by first | exact fun w h => List.mem_cons_of_mem _ (List.mem_append_left _ (List.mem_append_right _ h)) | decide +kernel
theorem mwX11_piecesInPot_3 : Cond.fieldLink RX11 130 "LadleKings$Rules" "seats" "I" ∈ wsX11_piecesInPot := by first | exact List.mem_of_getElem? (i := 2) rfl | decide +kernel
theorem mwX11_piecesInPot_4 : Cond.fieldLink RX11 19 "LadleKings" "state" "LLadleKings$State;" ∈ wsX11_piecesInPot := by first | exact List.mem_of_getElem? (i := 3) rfl | decide +kernel
theorem inX11_piecesInPot_X8 : ∀ w ∈ wsX80, w ∈ wsX11_piecesInPot := by first | exact fun w h => List.mem_cons_of_mem _ (List.mem_append_right _ h) | decide +kernel
theorem mwX11_piecesInPot_6 : Cond.fieldLink RX11 149 "LadleKings$State" "pieces" "[I" ∈ wsX11_piecesInPot := by first | exact List.mem_of_getElem? (i := 4) rfl | decide +kernel
set_option maxHeartbeats 8000000 in
set_option maxRecDepth 100000 in
theorem c_X11_piecesInPot (l : Launch) (D : va_G) (G : Nat → ClassId) (sz : Nat) (a_p0 : Nat) (a_p0_rules : Nat) (a_p0_state : Nat) (a_p0_tape : Nat) (a_p0_reader : Nat) (a_p0_kitchen : Nat) (a_p0_luck : Nat) (a_p0_plans : Nat) (a_p0_coups : Nat) (a_p0_past : Nat) (a_p0_fairDays : Nat) (a_p0_images : Nat) (a_p0_imageHeld : Nat) (a_p0_sheets : Nat) (a_p0_rules_need : Nat) (a_p0_rules_kind : Nat) (a_p0_rules_first : Nat) (a_p0_rules_second : Nat) (a_p0_rules_after : Nat) (a_p0_state_pieces : Nat) (a_p0_state_friends : Nat) (a_p0_state_spoons : Nat) (a_p0_state_eaten : Nat) (a_p0_state_seen : Nat) (i_p0_latestFault : Int) (i_p0_latestTear : Int) (i_p0_rules_seats : Int) (i_p0_rules_stirs : Int) (i_p0_state_seenDays : Int) (i_p0_state_bone : Int) (i_p0_state_king : Int) (i_p0_state_days : Int) (v_p0_state_pieces : (Int → Int)) (r : Int) (hf : f_X11_piecesInPot i_p0_rules_seats v_p0_state_pieces = some r) : Met l yX11_piecesInPot wsX11_piecesInPot rm_X11_piecesInPot (pcG D G [.ref a_p0] sz [(a_p0, .inr (11, [.ref a_p0_rules, .ref a_p0_state, .ref a_p0_tape, .ref a_p0_reader, .ref a_p0_kitchen, .ref a_p0_luck, .ref a_p0_plans, .ref a_p0_coups, .ref a_p0_past, .ref a_p0_fairDays, .ref a_p0_images, .ref a_p0_imageHeld, .ref a_p0_sheets, .int (Int32.ofInt i_p0_latestFault), .int (Int32.ofInt i_p0_latestTear)])), (a_p0_rules, .inr (6, [.int (Int32.ofInt i_p0_rules_seats), .int (Int32.ofInt i_p0_rules_stirs), .ref a_p0_rules_need, .ref a_p0_rules_kind, .ref a_p0_rules_first, .ref a_p0_rules_second, .ref a_p0_rules_after])), (a_p0_state, .inr (8, [.ref a_p0_state_pieces, .ref a_p0_state_friends, .ref a_p0_state_spoons, .ref a_p0_state_eaten, .ref a_p0_state_seen, .int (Int32.ofInt i_p0_state_seenDays), .int (Int32.ofInt i_p0_state_bone), .int (Int32.ofInt i_p0_state_king), .int (Int32.ofInt i_p0_state_days)])), (a_p0_state_pieces, .inl (G 1, 7, .inl (zA v_p0_state_pieces)))]) (qcI D G (Int32.ofInt r) [(a_p0, .inr (11, [.ref a_p0_rules, .ref a_p0_state, .ref a_p0_tape, .ref a_p0_reader, .ref a_p0_kitchen, .ref a_p0_luck, .ref a_p0_plans, .ref a_p0_coups, .ref a_p0_past, .ref a_p0_fairDays, .ref a_p0_images, .ref a_p0_imageHeld, .ref a_p0_sheets, .int (Int32.ofInt i_p0_latestFault), .int (Int32.ofInt i_p0_latestTear)])), (a_p0_rules, .inr (6, [.int (Int32.ofInt i_p0_rules_seats), .int (Int32.ofInt i_p0_rules_stirs), .ref a_p0_rules_need, .ref a_p0_rules_kind, .ref a_p0_rules_first, .ref a_p0_rules_second, .ref a_p0_rules_after])), (a_p0_state, .inr (8, [.ref a_p0_state_pieces, .ref a_p0_state_friends, .ref a_p0_state_spoons, .ref a_p0_state_eaten, .ref a_p0_state_seen, .int (Int32.ofInt i_p0_state_seenDays), .int (Int32.ofInt i_p0_state_bone), .int (Int32.ofInt i_p0_state_king), .int (Int32.ofInt i_p0_state_days)])), (a_p0_state_pieces, .inl (G 1, 7, .inl (zA v_p0_state_pieces)))] (va_A [(a_p0, .inr (11, [.ref a_p0_rules, .ref a_p0_state, .ref a_p0_tape, .ref a_p0_reader, .ref a_p0_kitchen, .ref a_p0_luck, .ref a_p0_plans, .ref a_p0_coups, .ref a_p0_past, .ref a_p0_fairDays, .ref a_p0_images, .ref a_p0_imageHeld, .ref a_p0_sheets, .int (Int32.ofInt i_p0_latestFault), .int (Int32.ofInt i_p0_latestTear)])), (a_p0_rules, .inr (6, [.int (Int32.ofInt i_p0_rules_seats), .int (Int32.ofInt i_p0_rules_stirs), .ref a_p0_rules_need, .ref a_p0_rules_kind, .ref a_p0_rules_first, .ref a_p0_rules_second, .ref a_p0_rules_after])), (a_p0_state, .inr (8, [.ref a_p0_state_pieces, .ref a_p0_state_friends, .ref a_p0_state_spoons, .ref a_p0_state_eaten, .ref a_p0_state_seen, .int (Int32.ofInt i_p0_state_seenDays), .int (Int32.ofInt i_p0_state_bone), .int (Int32.ofInt i_p0_state_king), .int (Int32.ofInt i_p0_state_days)])), (a_p0_state_pieces, .inl (G 1, 7, .inl (zA v_p0_state_pieces)))] sz)) 0 0 (va_A [(a_p0, .inr (11, [.ref a_p0_rules, .ref a_p0_state, .ref a_p0_tape, .ref a_p0_reader, .ref a_p0_kitchen, .ref a_p0_luck, .ref a_p0_plans, .ref a_p0_coups, .ref a_p0_past, .ref a_p0_fairDays, .ref a_p0_images, .ref a_p0_imageHeld, .ref a_p0_sheets, .int (Int32.ofInt i_p0_latestFault), .int (Int32.ofInt i_p0_latestTear)])), (a_p0_rules, .inr (6, [.int (Int32.ofInt i_p0_rules_seats), .int (Int32.ofInt i_p0_rules_stirs), .ref a_p0_rules_need, .ref a_p0_rules_kind, .ref a_p0_rules_first, .ref a_p0_rules_second, .ref a_p0_rules_after])), (a_p0_state, .inr (8, [.ref a_p0_state_pieces, .ref a_p0_state_friends, .ref a_p0_state_spoons, .ref a_p0_state_eaten, .ref a_p0_state_seen, .int (Int32.ofInt i_p0_state_seenDays), .int (Int32.ofInt i_p0_state_bone), .int (Int32.ofInt i_p0_state_king), .int (Int32.ofInt i_p0_state_days)])), (a_p0_state_pieces, .inl (G 1, 7, .inl (zA v_p0_state_pieces)))] sz) := by
  refine Met.ofW (cc := cX11_piecesInPot) (maxL := 3) (ret := (some .int)) (by decide) rfl ?_
  intro p e s m args below meth c s₁ B hml hv
  obtain ⟨rfl, hsz, hP, hK, hD0⟩ := hv
  have hx := B.exec
  have hb := B.bytes
  have hr := B.returns
  have hts := atoms_spec (ws := wsX11_piecesInPot) B.pre
  have hown : s.vm.findClass RX11 = some m.cls := findClass_of_methodNamed B.named
  have hlocks := B.notSynchronized
  subst hsz
  have hD := hD0.self (sz := s.heap.size)
  generalize hAe : va_A [(a_p0, .inr (11, [.ref a_p0_rules, .ref a_p0_state, .ref a_p0_tape, .ref a_p0_reader, .ref a_p0_kitchen, .ref a_p0_luck, .ref a_p0_plans, .ref a_p0_coups, .ref a_p0_past, .ref a_p0_fairDays, .ref a_p0_images, .ref a_p0_imageHeld, .ref a_p0_sheets, .int (Int32.ofInt i_p0_latestFault), .int (Int32.ofInt i_p0_latestTear)])), (a_p0_rules, .inr (6, [.int (Int32.ofInt i_p0_rules_seats), .int (Int32.ofInt i_p0_rules_stirs), .ref a_p0_rules_need, .ref a_p0_rules_kind, .ref a_p0_rules_first, .ref a_p0_rules_second, .ref a_p0_rules_after])), (a_p0_state, .inr (8, [.ref a_p0_state_pieces, .ref a_p0_state_friends, .ref a_p0_state_spoons, .ref a_p0_state_eaten, .ref a_p0_state_seen, .int (Int32.ofInt i_p0_state_seenDays), .int (Int32.ofInt i_p0_state_bone), .int (Int32.ofInt i_p0_state_king), .int (Int32.ofInt i_p0_state_days)])), (a_p0_state_pieces, .inl (G 1, 7, .inl (zA v_p0_state_pieces)))] s.heap.size = A at hD ⊢
  have hA : ∀ q : Nat, s.heap.size ≤ q → A q := fun q h => by rw [← hAe]; exact Or.inr h
  clear hAe hD0
  have hS : va_S A s.heap s.heap [] := va_S.rf
  have hl := lv_entry ([.ref a_p0]) (n := 3) (Nat.le_of_ble_eq_true rfl)
  rw [lg_entry_eq]
  generalize (lg_sl ([.ref a_p0]) ++ List.replicate (3 - (lg_sl ([.ref a_p0])).length) Slot.unset).toArray = ls at hl ⊢
  have hl : lv_has ls 3 [(0, .ref a_p0)] := hl
  refine W_nameQ (fun Q hQ => ?_)
  obtain ⟨H, hH⟩ : ∃ H, H = s.heap := ⟨_, rfl⟩
  replace hS : va_S A s.heap H [] := by rw [hH]; exact hS
  replace hP : va_P D vwCl [(a_p0, .inr (11, [.ref a_p0_rules, .ref a_p0_state, .ref a_p0_tape, .ref a_p0_reader, .ref a_p0_kitchen, .ref a_p0_luck, .ref a_p0_plans, .ref a_p0_coups, .ref a_p0_past, .ref a_p0_fairDays, .ref a_p0_images, .ref a_p0_imageHeld, .ref a_p0_sheets, .int (Int32.ofInt i_p0_latestFault), .int (Int32.ofInt i_p0_latestTear)])), (a_p0_rules, .inr (6, [.int (Int32.ofInt i_p0_rules_seats), .int (Int32.ofInt i_p0_rules_stirs), .ref a_p0_rules_need, .ref a_p0_rules_kind, .ref a_p0_rules_first, .ref a_p0_rules_second, .ref a_p0_rules_after])), (a_p0_state, .inr (8, [.ref a_p0_state_pieces, .ref a_p0_state_friends, .ref a_p0_state_spoons, .ref a_p0_state_eaten, .ref a_p0_state_seen, .int (Int32.ofInt i_p0_state_seenDays), .int (Int32.ofInt i_p0_state_bone), .int (Int32.ofInt i_p0_state_king), .int (Int32.ofInt i_p0_state_days)])), (a_p0_state_pieces, .inl (G 1, 7, .inl (zA v_p0_state_pieces)))] H := by rw [hH]; exact hP
  rw [← hH]
  clear hH
  unfold f_X11_piecesInPot at hf
  refine lv_iconst (v := Int32.ofInt (0 : Int)) hx hb dX11_piecesInPot_0 (by decide) ?_
  refine z_topi (fun z1 ez => ?_)
  replace hf := bnd_s hf ez
  clear ez
  refine lv_istore_n (lv' := [(1, .int (Int32.ofInt z1)), (0, .ref a_p0)]) hx hb dX11_piecesInPot_1 rfl hl (by decide) rfl (fun ls hl => ?_)
  refine lv_iconst (v := Int32.ofInt (0 : Int)) hx hb dX11_piecesInPot_2 (by decide) ?_
  refine z_topi (fun z2 ez => ?_)
  replace hf := bnd_s hf ez
  clear ez
  refine lv_istore_n (lv' := [(2, .int (Int32.ofInt z2)), (1, .int (Int32.ofInt z1)), (0, .ref a_p0)]) hx hb dX11_piecesInPot_3 rfl hl (by decide) rfl (fun ls hl => ?_)
  have hq := lq2_i hf
  clear hf
  obtain ⟨B5, eB5, NB5, hf⟩ := hq
  have hB5 : ∀ (n : Nat) (z3 : Int) (z4 : Int) (ls : Array Slot) (H : Heap) (locs : List Loc), lv_has ls 3 [(2, .int (Int32.ofInt z3)), (1, .int (Int32.ofInt z4)), (0, .ref a_p0)] → va_P D vwCl [(a_p0, .inr (11, [.ref a_p0_rules, .ref a_p0_state, .ref a_p0_tape, .ref a_p0_reader, .ref a_p0_kitchen, .ref a_p0_luck, .ref a_p0_plans, .ref a_p0_coups, .ref a_p0_past, .ref a_p0_fairDays, .ref a_p0_images, .ref a_p0_imageHeld, .ref a_p0_sheets, .int (Int32.ofInt i_p0_latestFault), .int (Int32.ofInt i_p0_latestTear)])), (a_p0_rules, .inr (6, [.int (Int32.ofInt i_p0_rules_seats), .int (Int32.ofInt i_p0_rules_stirs), .ref a_p0_rules_need, .ref a_p0_rules_kind, .ref a_p0_rules_first, .ref a_p0_rules_second, .ref a_p0_rules_after])), (a_p0_state, .inr (8, [.ref a_p0_state_pieces, .ref a_p0_state_friends, .ref a_p0_state_spoons, .ref a_p0_state_eaten, .ref a_p0_state_seen, .int (Int32.ofInt i_p0_state_seenDays), .int (Int32.ofInt i_p0_state_bone), .int (Int32.ofInt i_p0_state_king), .int (Int32.ofInt i_p0_state_days)])), (a_p0_state_pieces, .inl (G 1, 7, .inl (zA v_p0_state_pieces)))] H → va_D A [(a_p0, .inr (11, [.ref a_p0_rules, .ref a_p0_state, .ref a_p0_tape, .ref a_p0_reader, .ref a_p0_kitchen, .ref a_p0_luck, .ref a_p0_plans, .ref a_p0_coups, .ref a_p0_past, .ref a_p0_fairDays, .ref a_p0_images, .ref a_p0_imageHeld, .ref a_p0_sheets, .int (Int32.ofInt i_p0_latestFault), .int (Int32.ofInt i_p0_latestTear)])), (a_p0_rules, .inr (6, [.int (Int32.ofInt i_p0_rules_seats), .int (Int32.ofInt i_p0_rules_stirs), .ref a_p0_rules_need, .ref a_p0_rules_kind, .ref a_p0_rules_first, .ref a_p0_rules_second, .ref a_p0_rules_after])), (a_p0_state, .inr (8, [.ref a_p0_state_pieces, .ref a_p0_state_friends, .ref a_p0_state_spoons, .ref a_p0_state_eaten, .ref a_p0_state_seen, .int (Int32.ofInt i_p0_state_seenDays), .int (Int32.ofInt i_p0_state_bone), .int (Int32.ofInt i_p0_state_king), .int (Int32.ofInt i_p0_state_days)])), (a_p0_state_pieces, .inl (G 1, 7, .inl (zA v_p0_state_pieces)))] → va_S A s.heap H locs → lq2 B5 n z3 z4 = some r → W p l e rm_X11_piecesInPot s m ([.ref a_p0] : List Value).toArray below meth c H locs 0 0 Q (F0 m 4 ls []) := by
    clear hf hl hP hD hS
    intro n
    induction n with
    | zero =>
      intro z3 z4 ls H locs hl hP hD hS hf
      exact (lq2_0 hf).elim
    | succ n ih4 =>
      intro z3 z4 ls H locs hl hP hD hS hf
      replace hf := lq2_s eB5 hf
      unfold B_X11_piecesInPot_4 at hf
      refine lv_iload_n hx hb dX11_piecesInPot_4 rfl (lv_at hl 0 rfl) ?_
      refine lv_aload_n hx hb dX11_piecesInPot_5 rfl (lv_at hl 2 rfl) ?_
      refine va_get (D := D) (ci := 11) (v := .ref a_p0_rules) (C := RX11) (T := TX11) (N := 15) hx hb hts inX11_piecesInPot_X11 hown hK hP 0 rfl rfl 0 (by decide) (hts _ mwX11_piecesInPot_1) (fun _ h9 => h9) rfl dX11_piecesInPot_6 ?_
      refine va_get (D := D) (ci := 6) (v := .int (Int32.ofInt i_p0_rules_seats)) (C := RX6) (T := TX6) (N := 7) hx hb hts inX11_piecesInPot_X6 hown hK hP 1 rfl rfl 0 (by decide) (hts _ mwX11_piecesInPot_3) (fun _ h9 => h9) rfl dX11_piecesInPot_9 ?_
      have hr5 := ck_c hf
      replace hf := ck_r hf
      have hr6 := ck_c hf
      replace hf := ck_r hf
      refine lv_icmp_ge (tgt := 33) hx hb dX11_piecesInPot_12 (by decide) (fun cc => ?_) (fun cc => ?_)
      ·
        replace hf := ite_t ((z_le hr6 hr5).mp cc) hf
        clear cc
        refine lv_iload_n hx hb dX11_piecesInPot_33 rfl (lv_at hl 1 rfl) ?_
        obtain rfl := ou1 hf
        rw [hQ]
        exact W.iret hx hb hr (fun t ht hW => ⟨⟨_, (), rfl, rfl, by rw [ht]; exact hP, va_K.moved hW.alike hK, hD⟩, hS.F ht⟩) hS.2.2 dX11_piecesInPot_34
      ·
        replace hf := ite_f (fun h9 => cc ((z_le hr6 hr5).mpr h9)) hf
        clear cc
        refine lv_iload_n hx hb dX11_piecesInPot_15 rfl (lv_at hl 1 rfl) ?_
        refine lv_aload_n hx hb dX11_piecesInPot_16 rfl (lv_at hl 2 rfl) ?_
        refine va_get (D := D) (ci := 11) (v := .ref a_p0_state) (C := RX11) (T := TX11) (N := 15) hx hb hts inX11_piecesInPot_X11 hown hK hP 0 rfl rfl 1 (by decide) (hts _ mwX11_piecesInPot_4) (fun _ h9 => h9) rfl dX11_piecesInPot_17 ?_
        refine va_get (D := D) (ci := 8) (v := .ref a_p0_state_pieces) (C := RX8) (T := TX8) (N := 9) hx hb hts inX11_piecesInPot_X8 hown hK hP 2 rfl rfl 0 (by decide) (hts _ mwX11_piecesInPot_6) (fun _ h9 => h9) rfl dX11_piecesInPot_20 ?_
        refine lv_iload_n hx hb dX11_piecesInPot_23 rfl (lv_at hl 0 rfl) ?_
        have hc := ck_c hf
        replace hf := ck_r hf
        refine va_iald hx hb hK hP 3 1 rfl rfl (z_ix_in hc) dX11_piecesInPot_24 (z_ci (z_ald v_p0_state_pieces hc) ?_)
        clear hc
        refine lv_iadd hx hb dX11_piecesInPot_25 (z_ci (Int32.ofInt_add z4 (v_p0_state_pieces z3)) ?_)
        refine z_topi (fun z8 ez => ?_)
        replace hf := bnd_s hf ez
        clear ez
        refine lv_istore_n (lv' := [(1, .int (Int32.ofInt z8)), (2, .int (Int32.ofInt z3)), (0, .ref a_p0)]) hx hb dX11_piecesInPot_26 rfl hl (by decide) rfl (fun ls hl => ?_)
        obtain ⟨z9, ez⟩ : ∃ y : Int, y = (z3 + (1 : Int)) := ⟨_, rfl⟩
        replace hf := bnd_s hf ez
        refine lv_iinc (v := Int32.ofInt z9) (lv' := [(2, .int (Int32.ofInt z9)), (1, .int (Int32.ofInt z8)), (0, .ref a_p0)]) hx hb dX11_piecesInPot_27 hl (k := 1) rfl (by rw [ez]; exact (Int32.ofInt_add _ _).symm) (by decide) rfl (fun ls hl => ?_)
        clear ez
        refine lv_goto (tgt := 4) hx hb dX11_piecesInPot_30 (by decide) ?_
        exact ih4 _ _ _ _ _ (lv_sub hl [0, 1, 2] rfl) hP hD hS hf
  exact hB5 _ _ _ _ _ _ (lv_sub hl [0, 1, 2] rfl) hP hD hS hf

noncomputable def f_X11_count (i_p0_rules_seats : Int) (i_p0_state_seenDays : Int) (v_p0_state_pieces : (Int → Int)) (i_p0_tape_length : Int) (v_p0_imageHeld : (Int → Int)) (i_p0_sheets_0_lane : Int) (i_p0_sheets_0_size : Int) (x1 : Int) : Option (Int) := (ck (z_r32 x1) (if x1 = (0 : Int) then (some i_p0_state_seenDays) else (if x1 = (1 : Int) then (ck (z_ix (0 : Int) 2) (ck (z_r32 (v_p0_imageHeld (0 : Int))) (jn (fun (z5 : Int) => (ck (z_ix (1 : Int) 2) (ck (z_r32 (v_p0_imageHeld (1 : Int))) (if (v_p0_imageHeld (1 : Int)) = (0 : Int) then (some (z5 + (0 : Int))) else (some (z5 + (1 : Int))))))) (fun (J6 : Int → Option (Int)) => (if (v_p0_imageHeld (0 : Int)) = (0 : Int) then (J6 (0 : Int)) else (J6 (1 : Int))))))) else (if x1 = (2 : Int) then (some i_p0_tape_length) else (if x1 = (3 : Int) then (ck (z_ix (0 : Int) 4) (bd1 (f_X7_isNothing i_p0_sheets_0_lane) (fun (z10 : Int) => (ck (z_r32 z10) (if z10 = (0 : Int) then (ck (z_ix (0 : Int) 4) (some i_p0_sheets_0_size)) else (some (-4 : Int))))))) else (if x1 = (4 : Int) then (bd1 (f_X11_piecesInPot i_p0_rules_seats v_p0_state_pieces) (fun (z13 : Int) => (some z13))) else (some (-1 : Int))))))))
abbrev rm_X11_count : Room := { frames := 1, cells := 0, slots := 0, locals := 22 }
theorem inX11_count_X11 : ∀ w ∈ wsX110, w ∈ wsX11_count := by first | exact fun w h => List.mem_cons_of_mem _ (List.mem_append_left _ (List.mem_append_left _ (List.mem_append_left _ (List.mem_append_left _ (List.mem_append_right _ h))))) | decide +kernel
theorem mwX11_count_1 : Cond.fieldLink RX11 19 "LadleKings" "state" "LLadleKings$State;" ∈ wsX11_count := by first | exact List.mem_of_getElem? (i := 1) rfl | decide +kernel
theorem inX11_count_X8 : ∀ w ∈ wsX80, w ∈ wsX11_count := by first | exact fun w h => List.mem_cons_of_mem _ (List.mem_append_left _ (List.mem_append_left _ (List.mem_append_left _ (List.mem_append_right _ h)))) | decide +kernel
theorem mwX11_count_3 : Cond.fieldLink RX11 247 "LadleKings$State" "seenDays" "I" ∈ wsX11_count := by first | exact List.mem_of_getElem? (i := 2) rfl | decide +kernel
theorem mwX11_count_4 : Cond.fieldLink RX11 89 "LadleKings" "imageHeld" "[Z" ∈ wsX11_count := by first | exact List.mem_of_getElem? (i := 3) rfl | decide +kernel
theorem mwX11_count_5 : Cond.fieldLink RX11 26 "LadleKings" "tape" "LLadleKings$Tape;" ∈ wsX11_count := by first | exact List.mem_of_getElem? (i := 4) rfl | decide +kernel
theorem inX11_count_X9 : ∀ w ∈ wsX90, w ∈ wsX11_count := by first | exact fun w h => List.mem_cons_of_mem _ (List.mem_append_left _ (List.mem_append_left _ (List.mem_append_right _ h))) | decide +kernel
theorem mwX11_count_7 : Cond.fieldLink RX11 111 "LadleKings$Tape" "length" "I" ∈ wsX11_count := by first | exact List.mem_of_getElem? (i := 5) rfl | decide +kernel
theorem mwX11_count_8 : Cond.fieldLink RX11 95 "LadleKings" "sheets" "[LLadleKings$Sheet;" ∈ wsX11_count := by first | exact List.mem_of_getElem? (i := 6) rfl | decide +kernel
theorem inX11_count_X7 : ∀ w ∈ wsX70, w ∈ wsX11_count := by first | exact fun w h => List.mem_cons_of_mem _ (List.mem_append_left _ (List.mem_append_right _ h)) | decide +kernel
theorem mwX11_count_10 : Cond.fieldLink RX11 303 "LadleKings$Sheet" "size" "I" ∈ wsX11_count := by first | exact List.mem_of_getElem? (i := 7) rfl | decide +kernel
theorem hdV_yX11_piecesInPot_RX11 : yX11_piecesInPot.cls = RX11 ∧ yX11_piecesInPot.cls ≠ "java/lang/invoke/MethodHandle" ∧ yX11_piecesInPot.cls ≠ "java/lang/invoke/VarHandle" ∧ (parseMethodDescriptor yX11_piecesInPot.desc).map (fun d => d.parameters.length) = some 0 := by decide +kernel
set_option maxHeartbeats 8000000 in
set_option maxRecDepth 100000 in
theorem c_X11_count (l : Launch) (D : va_G) (G : Nat → ClassId) (sz : Nat) (a_p0 : Nat) (a_p0_rules : Nat) (a_p0_state : Nat) (a_p0_tape : Nat) (a_p0_reader : Nat) (a_p0_kitchen : Nat) (a_p0_luck : Nat) (a_p0_plans : Nat) (a_p0_coups : Nat) (a_p0_past : Nat) (a_p0_fairDays : Nat) (a_p0_images : Nat) (a_p0_imageHeld : Nat) (a_p0_sheets : Nat) (a_p0_rules_need : Nat) (a_p0_rules_kind : Nat) (a_p0_rules_first : Nat) (a_p0_rules_second : Nat) (a_p0_rules_after : Nat) (a_p0_state_pieces : Nat) (a_p0_state_friends : Nat) (a_p0_state_spoons : Nat) (a_p0_state_eaten : Nat) (a_p0_state_seen : Nat) (a_p0_tape_bytes : Nat) (a_p0_sheets_0 : Nat) (a_p0_sheets_1 : Nat) (a_p0_sheets_2 : Nat) (a_p0_sheets_3 : Nat) (a_p0_sheets_0_cells : Nat) (a_p0_sheets_1_cells : Nat) (a_p0_sheets_2_cells : Nat) (a_p0_sheets_3_cells : Nat) (i_p0_latestFault : Int) (i_p0_latestTear : Int) (i_p0_rules_seats : Int) (i_p0_rules_stirs : Int) (i_p0_state_seenDays : Int) (i_p0_state_bone : Int) (i_p0_state_king : Int) (i_p0_state_days : Int) (v_p0_state_pieces : (Int → Int)) (i_p0_tape_length : Int) (i_p0_tape_at : Int) (i_p0_tape_token : Int) (i_p0_tape_start : Int) (i_p0_tape_value : Int) (v_p0_imageHeld : (Int → Int)) (i_p0_sheets_0_lane : Int) (i_p0_sheets_0_size : Int) (i_p0_sheets_1_lane : Int) (i_p0_sheets_1_size : Int) (i_p0_sheets_2_lane : Int) (i_p0_sheets_2_size : Int) (i_p0_sheets_3_lane : Int) (i_p0_sheets_3_size : Int) (x1 : Int) (r : Int) (hf : f_X11_count i_p0_rules_seats i_p0_state_seenDays v_p0_state_pieces i_p0_tape_length v_p0_imageHeld i_p0_sheets_0_lane i_p0_sheets_0_size x1 = some r) : Met l yX11_count wsX11_count rm_X11_count (pcG D G [.ref a_p0, .int (Int32.ofInt x1)] sz [(a_p0, .inr (11, [.ref a_p0_rules, .ref a_p0_state, .ref a_p0_tape, .ref a_p0_reader, .ref a_p0_kitchen, .ref a_p0_luck, .ref a_p0_plans, .ref a_p0_coups, .ref a_p0_past, .ref a_p0_fairDays, .ref a_p0_images, .ref a_p0_imageHeld, .ref a_p0_sheets, .int (Int32.ofInt i_p0_latestFault), .int (Int32.ofInt i_p0_latestTear)])), (a_p0_rules, .inr (6, [.int (Int32.ofInt i_p0_rules_seats), .int (Int32.ofInt i_p0_rules_stirs), .ref a_p0_rules_need, .ref a_p0_rules_kind, .ref a_p0_rules_first, .ref a_p0_rules_second, .ref a_p0_rules_after])), (a_p0_state, .inr (8, [.ref a_p0_state_pieces, .ref a_p0_state_friends, .ref a_p0_state_spoons, .ref a_p0_state_eaten, .ref a_p0_state_seen, .int (Int32.ofInt i_p0_state_seenDays), .int (Int32.ofInt i_p0_state_bone), .int (Int32.ofInt i_p0_state_king), .int (Int32.ofInt i_p0_state_days)])), (a_p0_state_pieces, .inl (G 1, 7, .inl (zA v_p0_state_pieces))), (a_p0_tape, .inr (9, [.ref a_p0_tape_bytes, .int (Int32.ofInt i_p0_tape_length), .int (Int32.ofInt i_p0_tape_at), .int (Int32.ofInt i_p0_tape_token), .int (Int32.ofInt i_p0_tape_start), .int (Int32.ofInt i_p0_tape_value)])), (a_p0_imageHeld, .inl (G 3, 2, .inl (zA v_p0_imageHeld))), (a_p0_sheets, .inl (G 5, 4, .inr (.inr (.inr (.inr (va_up (va_up (va_up (va_up (fun _ => none) 0 (some a_p0_sheets_0)) 1 (some a_p0_sheets_1)) 2 (some a_p0_sheets_2)) 3 (some a_p0_sheets_3))))))), (a_p0_sheets_0, .inr (7, [.int (Int32.ofInt i_p0_sheets_0_lane), .int (Int32.ofInt i_p0_sheets_0_size), .ref a_p0_sheets_0_cells])), (a_p0_sheets_1, .inr (7, [.int (Int32.ofInt i_p0_sheets_1_lane), .int (Int32.ofInt i_p0_sheets_1_size), .ref a_p0_sheets_1_cells])), (a_p0_sheets_2, .inr (7, [.int (Int32.ofInt i_p0_sheets_2_lane), .int (Int32.ofInt i_p0_sheets_2_size), .ref a_p0_sheets_2_cells])), (a_p0_sheets_3, .inr (7, [.int (Int32.ofInt i_p0_sheets_3_lane), .int (Int32.ofInt i_p0_sheets_3_size), .ref a_p0_sheets_3_cells]))]) (qcI D G (Int32.ofInt r) [(a_p0, .inr (11, [.ref a_p0_rules, .ref a_p0_state, .ref a_p0_tape, .ref a_p0_reader, .ref a_p0_kitchen, .ref a_p0_luck, .ref a_p0_plans, .ref a_p0_coups, .ref a_p0_past, .ref a_p0_fairDays, .ref a_p0_images, .ref a_p0_imageHeld, .ref a_p0_sheets, .int (Int32.ofInt i_p0_latestFault), .int (Int32.ofInt i_p0_latestTear)])), (a_p0_rules, .inr (6, [.int (Int32.ofInt i_p0_rules_seats), .int (Int32.ofInt i_p0_rules_stirs), .ref a_p0_rules_need, .ref a_p0_rules_kind, .ref a_p0_rules_first, .ref a_p0_rules_second, .ref a_p0_rules_after])), (a_p0_state, .inr (8, [.ref a_p0_state_pieces, .ref a_p0_state_friends, .ref a_p0_state_spoons, .ref a_p0_state_eaten, .ref a_p0_state_seen, .int (Int32.ofInt i_p0_state_seenDays), .int (Int32.ofInt i_p0_state_bone), .int (Int32.ofInt i_p0_state_king), .int (Int32.ofInt i_p0_state_days)])), (a_p0_state_pieces, .inl (G 1, 7, .inl (zA v_p0_state_pieces))), (a_p0_tape, .inr (9, [.ref a_p0_tape_bytes, .int (Int32.ofInt i_p0_tape_length), .int (Int32.ofInt i_p0_tape_at), .int (Int32.ofInt i_p0_tape_token), .int (Int32.ofInt i_p0_tape_start), .int (Int32.ofInt i_p0_tape_value)])), (a_p0_imageHeld, .inl (G 3, 2, .inl (zA v_p0_imageHeld))), (a_p0_sheets, .inl (G 5, 4, .inr (.inr (.inr (.inr (va_up (va_up (va_up (va_up (fun _ => none) 0 (some a_p0_sheets_0)) 1 (some a_p0_sheets_1)) 2 (some a_p0_sheets_2)) 3 (some a_p0_sheets_3))))))), (a_p0_sheets_0, .inr (7, [.int (Int32.ofInt i_p0_sheets_0_lane), .int (Int32.ofInt i_p0_sheets_0_size), .ref a_p0_sheets_0_cells])), (a_p0_sheets_1, .inr (7, [.int (Int32.ofInt i_p0_sheets_1_lane), .int (Int32.ofInt i_p0_sheets_1_size), .ref a_p0_sheets_1_cells])), (a_p0_sheets_2, .inr (7, [.int (Int32.ofInt i_p0_sheets_2_lane), .int (Int32.ofInt i_p0_sheets_2_size), .ref a_p0_sheets_2_cells])), (a_p0_sheets_3, .inr (7, [.int (Int32.ofInt i_p0_sheets_3_lane), .int (Int32.ofInt i_p0_sheets_3_size), .ref a_p0_sheets_3_cells]))] (va_A [(a_p0, .inr (11, [.ref a_p0_rules, .ref a_p0_state, .ref a_p0_tape, .ref a_p0_reader, .ref a_p0_kitchen, .ref a_p0_luck, .ref a_p0_plans, .ref a_p0_coups, .ref a_p0_past, .ref a_p0_fairDays, .ref a_p0_images, .ref a_p0_imageHeld, .ref a_p0_sheets, .int (Int32.ofInt i_p0_latestFault), .int (Int32.ofInt i_p0_latestTear)])), (a_p0_rules, .inr (6, [.int (Int32.ofInt i_p0_rules_seats), .int (Int32.ofInt i_p0_rules_stirs), .ref a_p0_rules_need, .ref a_p0_rules_kind, .ref a_p0_rules_first, .ref a_p0_rules_second, .ref a_p0_rules_after])), (a_p0_state, .inr (8, [.ref a_p0_state_pieces, .ref a_p0_state_friends, .ref a_p0_state_spoons, .ref a_p0_state_eaten, .ref a_p0_state_seen, .int (Int32.ofInt i_p0_state_seenDays), .int (Int32.ofInt i_p0_state_bone), .int (Int32.ofInt i_p0_state_king), .int (Int32.ofInt i_p0_state_days)])), (a_p0_state_pieces, .inl (G 1, 7, .inl (zA v_p0_state_pieces))), (a_p0_tape, .inr (9, [.ref a_p0_tape_bytes, .int (Int32.ofInt i_p0_tape_length), .int (Int32.ofInt i_p0_tape_at), .int (Int32.ofInt i_p0_tape_token), .int (Int32.ofInt i_p0_tape_start), .int (Int32.ofInt i_p0_tape_value)])), (a_p0_imageHeld, .inl (G 3, 2, .inl (zA v_p0_imageHeld))), (a_p0_sheets, .inl (G 5, 4, .inr (.inr (.inr (.inr (va_up (va_up (va_up (va_up (fun _ => none) 0 (some a_p0_sheets_0)) 1 (some a_p0_sheets_1)) 2 (some a_p0_sheets_2)) 3 (some a_p0_sheets_3))))))), (a_p0_sheets_0, .inr (7, [.int (Int32.ofInt i_p0_sheets_0_lane), .int (Int32.ofInt i_p0_sheets_0_size), .ref a_p0_sheets_0_cells])), (a_p0_sheets_1, .inr (7, [.int (Int32.ofInt i_p0_sheets_1_lane), .int (Int32.ofInt i_p0_sheets_1_size), .ref a_p0_sheets_1_cells])), (a_p0_sheets_2, .inr (7, [.int (Int32.ofInt i_p0_sheets_2_lane), .int (Int32.ofInt i_p0_sheets_2_size), .ref a_p0_sheets_2_cells])), (a_p0_sheets_3, .inr (7, [.int (Int32.ofInt i_p0_sheets_3_lane), .int (Int32.ofInt i_p0_sheets_3_size), .ref a_p0_sheets_3_cells]))] sz)) 0 0 (va_A [(a_p0, .inr (11, [.ref a_p0_rules, .ref a_p0_state, .ref a_p0_tape, .ref a_p0_reader, .ref a_p0_kitchen, .ref a_p0_luck, .ref a_p0_plans, .ref a_p0_coups, .ref a_p0_past, .ref a_p0_fairDays, .ref a_p0_images, .ref a_p0_imageHeld, .ref a_p0_sheets, .int (Int32.ofInt i_p0_latestFault), .int (Int32.ofInt i_p0_latestTear)])), (a_p0_rules, .inr (6, [.int (Int32.ofInt i_p0_rules_seats), .int (Int32.ofInt i_p0_rules_stirs), .ref a_p0_rules_need, .ref a_p0_rules_kind, .ref a_p0_rules_first, .ref a_p0_rules_second, .ref a_p0_rules_after])), (a_p0_state, .inr (8, [.ref a_p0_state_pieces, .ref a_p0_state_friends, .ref a_p0_state_spoons, .ref a_p0_state_eaten, .ref a_p0_state_seen, .int (Int32.ofInt i_p0_state_seenDays), .int (Int32.ofInt i_p0_state_bone), .int (Int32.ofInt i_p0_state_king), .int (Int32.ofInt i_p0_state_days)])), (a_p0_state_pieces, .inl (G 1, 7, .inl (zA v_p0_state_pieces))), (a_p0_tape, .inr (9, [.ref a_p0_tape_bytes, .int (Int32.ofInt i_p0_tape_length), .int (Int32.ofInt i_p0_tape_at), .int (Int32.ofInt i_p0_tape_token), .int (Int32.ofInt i_p0_tape_start), .int (Int32.ofInt i_p0_tape_value)])), (a_p0_imageHeld, .inl (G 3, 2, .inl (zA v_p0_imageHeld))), (a_p0_sheets, .inl (G 5, 4, .inr (.inr (.inr (.inr (va_up (va_up (va_up (va_up (fun _ => none) 0 (some a_p0_sheets_0)) 1 (some a_p0_sheets_1)) 2 (some a_p0_sheets_2)) 3 (some a_p0_sheets_3))))))), (a_p0_sheets_0, .inr (7, [.int (Int32.ofInt i_p0_sheets_0_lane), .int (Int32.ofInt i_p0_sheets_0_size), .ref a_p0_sheets_0_cells])), (a_p0_sheets_1, .inr (7, [.int (Int32.ofInt i_p0_sheets_1_lane), .int (Int32.ofInt i_p0_sheets_1_size), .ref a_p0_sheets_1_cells])), (a_p0_sheets_2, .inr (7, [.int (Int32.ofInt i_p0_sheets_2_lane), .int (Int32.ofInt i_p0_sheets_2_size), .ref a_p0_sheets_2_cells])), (a_p0_sheets_3, .inr (7, [.int (Int32.ofInt i_p0_sheets_3_lane), .int (Int32.ofInt i_p0_sheets_3_size), .ref a_p0_sheets_3_cells]))] sz) := by
  refine Met.ofW (cc := cX11_count) (maxL := 2) (ret := (some .int)) (by decide) rfl ?_
  intro p e s m args below meth c s₁ B hml hv
  obtain ⟨rfl, hsz, hP, hK, hD0⟩ := hv
  have hx := B.exec
  have hb := B.bytes
  have hr := B.returns
  have hts := atoms_spec (ws := wsX11_count) B.pre
  have hown : s.vm.findClass RX11 = some m.cls := findClass_of_methodNamed B.named
  have hlocks := B.notSynchronized
  subst hsz
  have hD := hD0.self (sz := s.heap.size)
  generalize hAe : va_A [(a_p0, .inr (11, [.ref a_p0_rules, .ref a_p0_state, .ref a_p0_tape, .ref a_p0_reader, .ref a_p0_kitchen, .ref a_p0_luck, .ref a_p0_plans, .ref a_p0_coups, .ref a_p0_past, .ref a_p0_fairDays, .ref a_p0_images, .ref a_p0_imageHeld, .ref a_p0_sheets, .int (Int32.ofInt i_p0_latestFault), .int (Int32.ofInt i_p0_latestTear)])), (a_p0_rules, .inr (6, [.int (Int32.ofInt i_p0_rules_seats), .int (Int32.ofInt i_p0_rules_stirs), .ref a_p0_rules_need, .ref a_p0_rules_kind, .ref a_p0_rules_first, .ref a_p0_rules_second, .ref a_p0_rules_after])), (a_p0_state, .inr (8, [.ref a_p0_state_pieces, .ref a_p0_state_friends, .ref a_p0_state_spoons, .ref a_p0_state_eaten, .ref a_p0_state_seen, .int (Int32.ofInt i_p0_state_seenDays), .int (Int32.ofInt i_p0_state_bone), .int (Int32.ofInt i_p0_state_king), .int (Int32.ofInt i_p0_state_days)])), (a_p0_state_pieces, .inl (G 1, 7, .inl (zA v_p0_state_pieces))), (a_p0_tape, .inr (9, [.ref a_p0_tape_bytes, .int (Int32.ofInt i_p0_tape_length), .int (Int32.ofInt i_p0_tape_at), .int (Int32.ofInt i_p0_tape_token), .int (Int32.ofInt i_p0_tape_start), .int (Int32.ofInt i_p0_tape_value)])), (a_p0_imageHeld, .inl (G 3, 2, .inl (zA v_p0_imageHeld))), (a_p0_sheets, .inl (G 5, 4, .inr (.inr (.inr (.inr (va_up (va_up (va_up (va_up (fun _ => none) 0 (some a_p0_sheets_0)) 1 (some a_p0_sheets_1)) 2 (some a_p0_sheets_2)) 3 (some a_p0_sheets_3))))))), (a_p0_sheets_0, .inr (7, [.int (Int32.ofInt i_p0_sheets_0_lane), .int (Int32.ofInt i_p0_sheets_0_size), .ref a_p0_sheets_0_cells])), (a_p0_sheets_1, .inr (7, [.int (Int32.ofInt i_p0_sheets_1_lane), .int (Int32.ofInt i_p0_sheets_1_size), .ref a_p0_sheets_1_cells])), (a_p0_sheets_2, .inr (7, [.int (Int32.ofInt i_p0_sheets_2_lane), .int (Int32.ofInt i_p0_sheets_2_size), .ref a_p0_sheets_2_cells])), (a_p0_sheets_3, .inr (7, [.int (Int32.ofInt i_p0_sheets_3_lane), .int (Int32.ofInt i_p0_sheets_3_size), .ref a_p0_sheets_3_cells]))] s.heap.size = A at hD ⊢
  have hA : ∀ q : Nat, s.heap.size ≤ q → A q := fun q h => by rw [← hAe]; exact Or.inr h
  clear hAe hD0
  have hS : va_S A s.heap s.heap [] := va_S.rf
  have hl := lv_entry ([.ref a_p0, .int (Int32.ofInt x1)]) (n := 2) (Nat.le_of_ble_eq_true rfl)
  rw [lg_entry_eq]
  generalize (lg_sl ([.ref a_p0, .int (Int32.ofInt x1)]) ++ List.replicate (2 - (lg_sl ([.ref a_p0, .int (Int32.ofInt x1)])).length) Slot.unset).toArray = ls at hl ⊢
  have hl : lv_has ls 2 [(0, .ref a_p0), (1, .int (Int32.ofInt x1))] := hl
  refine W_nameQ (fun Q hQ => ?_)
  obtain ⟨H, hH⟩ : ∃ H, H = s.heap := ⟨_, rfl⟩
  replace hS : va_S A s.heap H [] := by rw [hH]; exact hS
  replace hP : va_P D vwCl [(a_p0, .inr (11, [.ref a_p0_rules, .ref a_p0_state, .ref a_p0_tape, .ref a_p0_reader, .ref a_p0_kitchen, .ref a_p0_luck, .ref a_p0_plans, .ref a_p0_coups, .ref a_p0_past, .ref a_p0_fairDays, .ref a_p0_images, .ref a_p0_imageHeld, .ref a_p0_sheets, .int (Int32.ofInt i_p0_latestFault), .int (Int32.ofInt i_p0_latestTear)])), (a_p0_rules, .inr (6, [.int (Int32.ofInt i_p0_rules_seats), .int (Int32.ofInt i_p0_rules_stirs), .ref a_p0_rules_need, .ref a_p0_rules_kind, .ref a_p0_rules_first, .ref a_p0_rules_second, .ref a_p0_rules_after])), (a_p0_state, .inr (8, [.ref a_p0_state_pieces, .ref a_p0_state_friends, .ref a_p0_state_spoons, .ref a_p0_state_eaten, .ref a_p0_state_seen, .int (Int32.ofInt i_p0_state_seenDays), .int (Int32.ofInt i_p0_state_bone), .int (Int32.ofInt i_p0_state_king), .int (Int32.ofInt i_p0_state_days)])), (a_p0_state_pieces, .inl (G 1, 7, .inl (zA v_p0_state_pieces))), (a_p0_tape, .inr (9, [.ref a_p0_tape_bytes, .int (Int32.ofInt i_p0_tape_length), .int (Int32.ofInt i_p0_tape_at), .int (Int32.ofInt i_p0_tape_token), .int (Int32.ofInt i_p0_tape_start), .int (Int32.ofInt i_p0_tape_value)])), (a_p0_imageHeld, .inl (G 3, 2, .inl (zA v_p0_imageHeld))), (a_p0_sheets, .inl (G 5, 4, .inr (.inr (.inr (.inr (va_up (va_up (va_up (va_up (fun _ => none) 0 (some a_p0_sheets_0)) 1 (some a_p0_sheets_1)) 2 (some a_p0_sheets_2)) 3 (some a_p0_sheets_3))))))), (a_p0_sheets_0, .inr (7, [.int (Int32.ofInt i_p0_sheets_0_lane), .int (Int32.ofInt i_p0_sheets_0_size), .ref a_p0_sheets_0_cells])), (a_p0_sheets_1, .inr (7, [.int (Int32.ofInt i_p0_sheets_1_lane), .int (Int32.ofInt i_p0_sheets_1_size), .ref a_p0_sheets_1_cells])), (a_p0_sheets_2, .inr (7, [.int (Int32.ofInt i_p0_sheets_2_lane), .int (Int32.ofInt i_p0_sheets_2_size), .ref a_p0_sheets_2_cells])), (a_p0_sheets_3, .inr (7, [.int (Int32.ofInt i_p0_sheets_3_lane), .int (Int32.ofInt i_p0_sheets_3_size), .ref a_p0_sheets_3_cells]))] H := by rw [hH]; exact hP
  rw [← hH]
  clear hH
  unfold f_X11_count at hf
  refine lv_iload_n hx hb dX11_count_0 rfl (lv_at hl 1 rfl) ?_
  have hr0 := ck_c hf
  replace hf := ck_r hf
  rcases Decidable.em (x1 = (0 : Int)) with hk2 | hk2
  ·
    replace hf := ite_t hk2 hf
    refine lv_tableIn (tgt := 36) hx hb dX11_count_1 (by rw [hk2]; decide) (by rw [hk2]; decide) (by rw [hk2]; rfl) (by decide) ?_
    clear hk2
    refine lv_aload_n hx hb dX11_count_36 rfl (lv_at hl 0 rfl) ?_
    refine va_get (D := D) (ci := 11) (v := .ref a_p0_state) (C := RX11) (T := TX11) (N := 15) hx hb hts inX11_count_X11 hown hK hP 0 rfl rfl 1 (by decide) (hts _ mwX11_count_1) (fun _ h9 => h9) rfl dX11_count_37 ?_
    refine va_get (D := D) (ci := 8) (v := .int (Int32.ofInt i_p0_state_seenDays)) (C := RX8) (T := TX8) (N := 9) hx hb hts inX11_count_X8 hown hK hP 2 rfl rfl 5 (by decide) (hts _ mwX11_count_3) (fun _ h9 => h9) rfl dX11_count_40 ?_
    obtain rfl := ou1 hf
    rw [hQ]
    exact W.iret hx hb hr (fun t ht hW => ⟨⟨_, (), rfl, rfl, by rw [ht]; exact hP, va_K.moved hW.alike hK, hD⟩, hS.F ht⟩) hS.2.2 dX11_count_43
  replace hf := ite_f hk2 hf
  rcases Decidable.em (x1 = (1 : Int)) with hk3 | hk3
  ·
    replace hf := ite_t hk3 hf
    refine lv_tableIn (tgt := 44) hx hb dX11_count_1 (by rw [hk3]; decide) (by rw [hk3]; decide) (by rw [hk3]; rfl) (by decide) ?_
    clear hk3 hk2
    refine lv_aload_n hx hb dX11_count_44 rfl (lv_at hl 0 rfl) ?_
    refine va_get (D := D) (ci := 11) (v := .ref a_p0_imageHeld) (C := RX11) (T := TX11) (N := 15) hx hb hts inX11_count_X11 hown hK hP 0 rfl rfl 11 (by decide) (hts _ mwX11_count_4) (fun _ h9 => h9) rfl dX11_count_45 ?_
    refine lv_iconst (v := Int32.ofInt (0 : Int)) hx hb dX11_count_48 (by decide) ?_
    have hc := ck_c hf
    replace hf := ck_r hf
    refine va_zald hx hb hK hP 5 3 rfl rfl (z_ix_in hc) dX11_count_49 (z_ci (z_ald v_p0_imageHeld hc) ?_)
    clear hc
    have hr3 := ck_c hf
    replace hf := ck_r hf
    have hq := jn_i hf
    clear hf
    obtain ⟨J6, eJ6, hf⟩ := hq
    have hJ6 : ∀ (z5 : Int) (ls : Array Slot) (H : Heap) (locs : List Loc), lv_has ls 2 [(0, .ref a_p0)] → va_P D vwCl [(a_p0, .inr (11, [.ref a_p0_rules, .ref a_p0_state, .ref a_p0_tape, .ref a_p0_reader, .ref a_p0_kitchen, .ref a_p0_luck, .ref a_p0_plans, .ref a_p0_coups, .ref a_p0_past, .ref a_p0_fairDays, .ref a_p0_images, .ref a_p0_imageHeld, .ref a_p0_sheets, .int (Int32.ofInt i_p0_latestFault), .int (Int32.ofInt i_p0_latestTear)])), (a_p0_rules, .inr (6, [.int (Int32.ofInt i_p0_rules_seats), .int (Int32.ofInt i_p0_rules_stirs), .ref a_p0_rules_need, .ref a_p0_rules_kind, .ref a_p0_rules_first, .ref a_p0_rules_second, .ref a_p0_rules_after])), (a_p0_state, .inr (8, [.ref a_p0_state_pieces, .ref a_p0_state_friends, .ref a_p0_state_spoons, .ref a_p0_state_eaten, .ref a_p0_state_seen, .int (Int32.ofInt i_p0_state_seenDays), .int (Int32.ofInt i_p0_state_bone), .int (Int32.ofInt i_p0_state_king), .int (Int32.ofInt i_p0_state_days)])), (a_p0_state_pieces, .inl (G 1, 7, .inl (zA v_p0_state_pieces))), (a_p0_tape, .inr (9, [.ref a_p0_tape_bytes, .int (Int32.ofInt i_p0_tape_length), .int (Int32.ofInt i_p0_tape_at), .int (Int32.ofInt i_p0_tape_token), .int (Int32.ofInt i_p0_tape_start), .int (Int32.ofInt i_p0_tape_value)])), (a_p0_imageHeld, .inl (G 3, 2, .inl (zA v_p0_imageHeld))), (a_p0_sheets, .inl (G 5, 4, .inr (.inr (.inr (.inr (va_up (va_up (va_up (va_up (fun _ => none) 0 (some a_p0_sheets_0)) 1 (some a_p0_sheets_1)) 2 (some a_p0_sheets_2)) 3 (some a_p0_sheets_3))))))), (a_p0_sheets_0, .inr (7, [.int (Int32.ofInt i_p0_sheets_0_lane), .int (Int32.ofInt i_p0_sheets_0_size), .ref a_p0_sheets_0_cells])), (a_p0_sheets_1, .inr (7, [.int (Int32.ofInt i_p0_sheets_1_lane), .int (Int32.ofInt i_p0_sheets_1_size), .ref a_p0_sheets_1_cells])), (a_p0_sheets_2, .inr (7, [.int (Int32.ofInt i_p0_sheets_2_lane), .int (Int32.ofInt i_p0_sheets_2_size), .ref a_p0_sheets_2_cells])), (a_p0_sheets_3, .inr (7, [.int (Int32.ofInt i_p0_sheets_3_lane), .int (Int32.ofInt i_p0_sheets_3_size), .ref a_p0_sheets_3_cells]))] H → va_D A [(a_p0, .inr (11, [.ref a_p0_rules, .ref a_p0_state, .ref a_p0_tape, .ref a_p0_reader, .ref a_p0_kitchen, .ref a_p0_luck, .ref a_p0_plans, .ref a_p0_coups, .ref a_p0_past, .ref a_p0_fairDays, .ref a_p0_images, .ref a_p0_imageHeld, .ref a_p0_sheets, .int (Int32.ofInt i_p0_latestFault), .int (Int32.ofInt i_p0_latestTear)])), (a_p0_rules, .inr (6, [.int (Int32.ofInt i_p0_rules_seats), .int (Int32.ofInt i_p0_rules_stirs), .ref a_p0_rules_need, .ref a_p0_rules_kind, .ref a_p0_rules_first, .ref a_p0_rules_second, .ref a_p0_rules_after])), (a_p0_state, .inr (8, [.ref a_p0_state_pieces, .ref a_p0_state_friends, .ref a_p0_state_spoons, .ref a_p0_state_eaten, .ref a_p0_state_seen, .int (Int32.ofInt i_p0_state_seenDays), .int (Int32.ofInt i_p0_state_bone), .int (Int32.ofInt i_p0_state_king), .int (Int32.ofInt i_p0_state_days)])), (a_p0_state_pieces, .inl (G 1, 7, .inl (zA v_p0_state_pieces))), (a_p0_tape, .inr (9, [.ref a_p0_tape_bytes, .int (Int32.ofInt i_p0_tape_length), .int (Int32.ofInt i_p0_tape_at), .int (Int32.ofInt i_p0_tape_token), .int (Int32.ofInt i_p0_tape_start), .int (Int32.ofInt i_p0_tape_value)])), (a_p0_imageHeld, .inl (G 3, 2, .inl (zA v_p0_imageHeld))), (a_p0_sheets, .inl (G 5, 4, .inr (.inr (.inr (.inr (va_up (va_up (va_up (va_up (fun _ => none) 0 (some a_p0_sheets_0)) 1 (some a_p0_sheets_1)) 2 (some a_p0_sheets_2)) 3 (some a_p0_sheets_3))))))), (a_p0_sheets_0, .inr (7, [.int (Int32.ofInt i_p0_sheets_0_lane), .int (Int32.ofInt i_p0_sheets_0_size), .ref a_p0_sheets_0_cells])), (a_p0_sheets_1, .inr (7, [.int (Int32.ofInt i_p0_sheets_1_lane), .int (Int32.ofInt i_p0_sheets_1_size), .ref a_p0_sheets_1_cells])), (a_p0_sheets_2, .inr (7, [.int (Int32.ofInt i_p0_sheets_2_lane), .int (Int32.ofInt i_p0_sheets_2_size), .ref a_p0_sheets_2_cells])), (a_p0_sheets_3, .inr (7, [.int (Int32.ofInt i_p0_sheets_3_lane), .int (Int32.ofInt i_p0_sheets_3_size), .ref a_p0_sheets_3_cells]))] → va_S A s.heap H locs → J6 z5 = some r → W p l e rm_X11_count s m ([.ref a_p0, .int (Int32.ofInt x1)] : List Value).toArray below meth c H locs 0 0 Q (F0 m 58 ls [.int (Int32.ofInt z5)]) := by
      clear hf hl hP hD hS
      intro z5 ls H locs hl hP hD hS hf
      replace hf := jn1_s eJ6 hf
      refine lv_aload_n hx hb dX11_count_58 rfl (lv_at hl 0 rfl) ?_
      refine va_get (D := D) (ci := 11) (v := .ref a_p0_imageHeld) (C := RX11) (T := TX11) (N := 15) hx hb hts inX11_count_X11 hown hK hP 0 rfl rfl 11 (by decide) (hts _ mwX11_count_4) (fun _ h9 => h9) rfl dX11_count_59 ?_
      refine lv_iconst (v := Int32.ofInt (1 : Int)) hx hb dX11_count_62 (by decide) ?_
      have hc := ck_c hf
      replace hf := ck_r hf
      refine va_zald hx hb hK hP 5 3 rfl rfl (z_ix_in hc) dX11_count_63 (z_ci (z_ald v_p0_imageHeld hc) ?_)
      clear hc
      have hr6 := ck_c hf
      replace hf := ck_r hf
      refine lv_if_eq (tgt := 71) hx hb dX11_count_64 (by decide) (fun cc => ?_) (fun cc => ?_)
      ·
        replace hf := ite_t ((z_eq0 hr6).mp cc) hf
        clear cc
        refine lv_iconst (v := Int32.ofInt (0 : Int)) hx hb dX11_count_71 (by decide) ?_
        refine lv_iadd hx hb dX11_count_72 (z_ci (Int32.ofInt_add z5 (0 : Int)) ?_)
        obtain rfl := ou1 hf
        rw [hQ]
        exact W.iret hx hb hr (fun t ht hW => ⟨⟨_, (), rfl, rfl, by rw [ht]; exact hP, va_K.moved hW.alike hK, hD⟩, hS.F ht⟩) hS.2.2 dX11_count_73
      ·
        replace hf := ite_f (fun h9 => cc ((z_eq0 hr6).mpr h9)) hf
        clear cc
        refine lv_iconst (v := Int32.ofInt (1 : Int)) hx hb dX11_count_67 (by decide) ?_
        refine lv_goto (tgt := 72) hx hb dX11_count_68 (by decide) ?_
        refine lv_iadd hx hb dX11_count_72 (z_ci (Int32.ofInt_add z5 (1 : Int)) ?_)
        obtain rfl := ou1 hf
        rw [hQ]
        exact W.iret hx hb hr (fun t ht hW => ⟨⟨_, (), rfl, rfl, by rw [ht]; exact hP, va_K.moved hW.alike hK, hD⟩, hS.F ht⟩) hS.2.2 dX11_count_73
    refine lv_if_eq (tgt := 57) hx hb dX11_count_50 (by decide) (fun cc => ?_) (fun cc => ?_)
    ·
      replace hf := ite_t ((z_eq0 hr3).mp cc) hf
      clear cc
      refine lv_iconst (v := Int32.ofInt (0 : Int)) hx hb dX11_count_57 (by decide) ?_
      exact hJ6 _ _ _ _ (lv_sub hl [0] rfl) hP hD hS hf
    ·
      replace hf := ite_f (fun h9 => cc ((z_eq0 hr3).mpr h9)) hf
      clear cc
      refine lv_iconst (v := Int32.ofInt (1 : Int)) hx hb dX11_count_53 (by decide) ?_
      refine lv_goto (tgt := 58) hx hb dX11_count_54 (by decide) ?_
      exact hJ6 _ _ _ _ (lv_sub hl [0] rfl) hP hD hS hf
  replace hf := ite_f hk3 hf
  rcases Decidable.em (x1 = (2 : Int)) with hk8 | hk8
  ·
    replace hf := ite_t hk8 hf
    refine lv_tableIn (tgt := 74) hx hb dX11_count_1 (by rw [hk8]; decide) (by rw [hk8]; decide) (by rw [hk8]; rfl) (by decide) ?_
    clear hk8 hk2 hk3
    refine lv_aload_n hx hb dX11_count_74 rfl (lv_at hl 0 rfl) ?_
    refine va_get (D := D) (ci := 11) (v := .ref a_p0_tape) (C := RX11) (T := TX11) (N := 15) hx hb hts inX11_count_X11 hown hK hP 0 rfl rfl 2 (by decide) (hts _ mwX11_count_5) (fun _ h9 => h9) rfl dX11_count_75 ?_
    refine va_get (D := D) (ci := 9) (v := .int (Int32.ofInt i_p0_tape_length)) (C := RX9) (T := TX9) (N := 6) hx hb hts inX11_count_X9 hown hK hP 4 rfl rfl 1 (by decide) (hts _ mwX11_count_7) (fun _ h9 => h9) rfl dX11_count_78 ?_
    obtain rfl := ou1 hf
    rw [hQ]
    exact W.iret hx hb hr (fun t ht hW => ⟨⟨_, (), rfl, rfl, by rw [ht]; exact hP, va_K.moved hW.alike hK, hD⟩, hS.F ht⟩) hS.2.2 dX11_count_81
  replace hf := ite_f hk8 hf
  rcases Decidable.em (x1 = (3 : Int)) with hk9 | hk9
  ·
    replace hf := ite_t hk9 hf
    refine lv_tableIn (tgt := 82) hx hb dX11_count_1 (by rw [hk9]; decide) (by rw [hk9]; decide) (by rw [hk9]; rfl) (by decide) ?_
    clear hk9 hk2 hk3 hk8
    refine lv_aload_n hx hb dX11_count_82 rfl (lv_at hl 0 rfl) ?_
    refine va_get (D := D) (ci := 11) (v := .ref a_p0_sheets) (C := RX11) (T := TX11) (N := 15) hx hb hts inX11_count_X11 hown hK hP 0 rfl rfl 12 (by decide) (hts _ mwX11_count_8) (fun _ h9 => h9) rfl dX11_count_83 ?_
    refine lv_iconst (v := Int32.ofInt (0 : Int)) hx hb dX11_count_86 (by decide) ?_
    have hc := ck_c hf
    replace hf := ck_r hf
    refine va_aldq hx hb hK hP 6 5 rfl rfl (z_ix_in hc) dX11_count_87 ?_
    clear hc
    refine W.eq (g2 := F0 m 88 ls [.ref a_p0_sheets_0]) rfl ?_
    have hq := bd1_s hf
    clear hf
    obtain ⟨z10, hcall, hf⟩ := hq
    refine gnI (va_runV (As := []) (rest := []) ⟨hx, hb, hml, hown, hts⟩ (c_X7_isNothing (l := l) (D := D) (G := G) (sz := H.size) (a_p0 := a_p0_sheets_0) (a_p0_cells := a_p0_sheets_0_cells) (i_p0_lane := i_p0_sheets_0_lane) (i_p0_size := i_p0_sheets_0_size) (r := z10) (hf := hcall)) (cwV 0 hts gX11_count_X7_isNothing rfl rfl rfl hdV_yX7_isNothing_RX7 ⟨Nat.le_of_ble_eq_true rfl, Nat.le_of_ble_eq_true rfl⟩) (preG_V (ci := 7) (q := (RX7, TX7, 3)) (hP.sub [7] rfl) (hD.sub [7] rfl rfl) hK rfl rfl) rfl rfl hl.1 rfl (lv_room (Nat.le_of_ble_eq_true rfl)) dX11_count_88 ⟨Nat.le_of_ble_eq_true rfl, Nat.le_of_ble_eq_true rfl⟩) hP hD hS hA [7] rfl (fun H locs hP hD hS => ?_)
    clear hcall
    have hr10 := ck_c hf
    replace hf := ck_r hf
    refine lv_if_eq (tgt := 99) hx hb dX11_count_91 (by decide) (fun cc => ?_) (fun cc => ?_)
    ·
      replace hf := ite_t ((z_eq0 hr10).mp cc) hf
      clear cc
      refine lv_aload_n hx hb dX11_count_99 rfl (lv_at hl 0 rfl) ?_
      refine va_get (D := D) (ci := 11) (v := .ref a_p0_sheets) (C := RX11) (T := TX11) (N := 15) hx hb hts inX11_count_X11 hown hK hP 0 rfl rfl 12 (by decide) (hts _ mwX11_count_8) (fun _ h9 => h9) rfl dX11_count_100 ?_
      refine lv_iconst (v := Int32.ofInt (0 : Int)) hx hb dX11_count_103 (by decide) ?_
      have hc := ck_c hf
      replace hf := ck_r hf
      refine va_aldq hx hb hK hP 6 5 rfl rfl (z_ix_in hc) dX11_count_104 ?_
      clear hc
      refine W.eq (g2 := F0 m 105 ls [.ref a_p0_sheets_0]) rfl ?_
      refine va_get (D := D) (ci := 7) (v := .int (Int32.ofInt i_p0_sheets_0_size)) (C := RX7) (T := TX7) (N := 3) hx hb hts inX11_count_X7 hown hK hP 7 rfl rfl 1 (by decide) (hts _ mwX11_count_10) (fun _ h9 => h9) rfl dX11_count_105 ?_
      obtain rfl := ou1 hf
      rw [hQ]
      exact W.iret hx hb hr (fun t ht hW => ⟨⟨_, (), rfl, rfl, by rw [ht]; exact hP, va_K.moved hW.alike hK, hD⟩, hS.F ht⟩) hS.2.2 dX11_count_108
    ·
      replace hf := ite_f (fun h9 => cc ((z_eq0 hr10).mpr h9)) hf
      clear cc
      refine lv_bipush (v := Int32.ofInt (-4 : Int)) hx hb dX11_count_94 (by decide) ?_
      refine lv_goto (tgt := 108) hx hb dX11_count_96 (by decide) ?_
      obtain rfl := ou1 hf
      rw [hQ]
      exact W.iret hx hb hr (fun t ht hW => ⟨⟨_, (), rfl, rfl, by rw [ht]; exact hP, va_K.moved hW.alike hK, hD⟩, hS.F ht⟩) hS.2.2 dX11_count_108
  replace hf := ite_f hk9 hf
  rcases Decidable.em (x1 = (4 : Int)) with hk12 | hk12
  ·
    replace hf := ite_t hk12 hf
    refine lv_tableIn (tgt := 109) hx hb dX11_count_1 (by rw [hk12]; decide) (by rw [hk12]; decide) (by rw [hk12]; rfl) (by decide) ?_
    clear hk12 hk2 hk3 hk8 hk9
    refine lv_aload_n hx hb dX11_count_109 rfl (lv_at hl 0 rfl) ?_
    have hq := bd1_s hf
    clear hf
    obtain ⟨z13, hcall, hf⟩ := hq
    refine gnI (va_runV (As := []) (rest := []) ⟨hx, hb, hml, hown, hts⟩ (c_X11_piecesInPot (l := l) (D := D) (G := G) (sz := H.size) (a_p0 := a_p0) (a_p0_rules := a_p0_rules) (a_p0_state := a_p0_state) (a_p0_tape := a_p0_tape) (a_p0_reader := a_p0_reader) (a_p0_kitchen := a_p0_kitchen) (a_p0_luck := a_p0_luck) (a_p0_plans := a_p0_plans) (a_p0_coups := a_p0_coups) (a_p0_past := a_p0_past) (a_p0_fairDays := a_p0_fairDays) (a_p0_images := a_p0_images) (a_p0_imageHeld := a_p0_imageHeld) (a_p0_sheets := a_p0_sheets) (a_p0_rules_need := a_p0_rules_need) (a_p0_rules_kind := a_p0_rules_kind) (a_p0_rules_first := a_p0_rules_first) (a_p0_rules_second := a_p0_rules_second) (a_p0_rules_after := a_p0_rules_after) (a_p0_state_pieces := a_p0_state_pieces) (a_p0_state_friends := a_p0_state_friends) (a_p0_state_spoons := a_p0_state_spoons) (a_p0_state_eaten := a_p0_state_eaten) (a_p0_state_seen := a_p0_state_seen) (i_p0_latestFault := i_p0_latestFault) (i_p0_latestTear := i_p0_latestTear) (i_p0_rules_seats := i_p0_rules_seats) (i_p0_rules_stirs := i_p0_rules_stirs) (i_p0_state_seenDays := i_p0_state_seenDays) (i_p0_state_bone := i_p0_state_bone) (i_p0_state_king := i_p0_state_king) (i_p0_state_days := i_p0_state_days) (v_p0_state_pieces := v_p0_state_pieces) (r := z13) (hf := hcall)) (cwV 0 hts gX11_count_X11_piecesInPot rfl rfl rfl hdV_yX11_piecesInPot_RX11 ⟨Nat.le_of_ble_eq_true rfl, Nat.le_of_ble_eq_true rfl⟩) (preG_V (ci := 11) (q := (RX11, TX11, 15)) (hP.sub [0, 1, 2, 3] rfl) (hD.sub [0, 1, 2, 3] rfl rfl) hK rfl rfl) rfl rfl hl.1 rfl (lv_room (Nat.le_of_ble_eq_true rfl)) dX11_count_110 ⟨Nat.le_of_ble_eq_true rfl, Nat.le_of_ble_eq_true rfl⟩) hP hD hS hA [0, 1, 2, 3] rfl (fun H locs hP hD hS => ?_)
    clear hcall
    obtain rfl := ou1 hf
    rw [hQ]
    exact W.iret hx hb hr (fun t ht hW => ⟨⟨_, (), rfl, rfl, by rw [ht]; exact hP, va_K.moved hW.alike hK, hD⟩, hS.F ht⟩) hS.2.2 dX11_count_113
  replace hf := ite_f hk12 hf
  refine lv_tableOut (tgt := 114) hx hb dX11_count_1 (by rw [z_ti hr0]; omega) (by decide) ?_
  clear hk2 hk3 hk8 hk9 hk12
  refine lv_iconst (v := Int32.ofInt (-1 : Int)) hx hb dX11_count_114 (by decide) ?_
  obtain rfl := ou1 hf
  rw [hQ]
  exact W.iret hx hb hr (fun t ht hW => ⟨⟨_, (), rfl, rfl, by rw [ht]; exact hP, va_K.moved hW.alike hK, hD⟩, hS.F ht⟩) hS.2.2 dX11_count_115

noncomputable def f_X12_in (x0 : Int) (x2 : Int) (x4 : Int) : Option (Int) := (ck (z_r64 x0) (ck (z_r64 x2) (ck (z_r32 (z_cmp x0 x2)) (if (z_cmp x0 x2) < (0 : Int) then (some (0 : Int)) else (ck (z_r64 x4) (ck (z_r32 (z_cmp x0 x4)) (if (0 : Int) < (z_cmp x0 x4) then (some (0 : Int)) else (some (1 : Int)))))))))
abbrev rm_X12_in : Room := { frames := 0, cells := 0, slots := 0, locals := 0 }
set_option maxHeartbeats 8000000 in
set_option maxRecDepth 100000 in
theorem c_X12_in (l : Launch) (D : va_G) (G : Nat → ClassId) (sz : Nat) (x0 : Int) (x2 : Int) (x4 : Int) (r : Int) (hf : f_X12_in x0 x2 x4 = some r) : Met l yX12_in wsX12_in rm_X12_in (pcG D G [.long (Int64.ofInt x0), .long (Int64.ofInt x2), .long (Int64.ofInt x4)] sz []) (qcI D G (Int32.ofInt r) [] (va_A [] sz)) 0 0 (va_A [] sz) := by
  refine Met.ofW (cc := cX12_in) (maxL := 6) (ret := (some .boolean)) (by decide) rfl ?_
  intro p e s m args below meth c s₁ B hml hv
  obtain ⟨rfl, hsz, hP, hK, hD0⟩ := hv
  have hx := B.exec
  have hb := B.bytes
  have hr := B.returns
  have hts := atoms_spec (ws := wsX12_in) B.pre
  have hown : s.vm.findClass RX12 = some m.cls := findClass_of_methodNamed B.named
  have hlocks := B.notSynchronized
  subst hsz
  have hD := hD0.self (sz := s.heap.size)
  generalize hAe : va_A [] s.heap.size = A at hD ⊢
  have hA : ∀ q : Nat, s.heap.size ≤ q → A q := fun q h => by rw [← hAe]; exact Or.inr h
  clear hAe hD0
  have hS : va_S A s.heap s.heap [] := va_S.rf
  have hl := lv_entry ([.long (Int64.ofInt x0), .long (Int64.ofInt x2), .long (Int64.ofInt x4)]) (n := 6) (Nat.le_of_ble_eq_true rfl)
  rw [lg_entry_eq]
  generalize (lg_sl ([.long (Int64.ofInt x0), .long (Int64.ofInt x2), .long (Int64.ofInt x4)]) ++ List.replicate (6 - (lg_sl ([.long (Int64.ofInt x0), .long (Int64.ofInt x2), .long (Int64.ofInt x4)])).length) Slot.unset).toArray = ls at hl ⊢
  have hl : lv_has ls 6 [(0, .long (Int64.ofInt x0)), (2, .long (Int64.ofInt x2)), (4, .long (Int64.ofInt x4))] := hl
  refine W_nameQ (fun Q hQ => ?_)
  obtain ⟨H, hH⟩ : ∃ H, H = s.heap := ⟨_, rfl⟩
  replace hS : va_S A s.heap H [] := by rw [hH]; exact hS
  replace hP : va_P D vwCl [] H := by rw [hH]; exact hP
  rw [← hH]
  clear hH
  unfold f_X12_in at hf
  refine lv_lload_n hx hb dX12_in_0 rfl (lv_at hl 0 rfl) ?_
  refine lv_lload_n hx hb dX12_in_1 rfl (lv_at hl 1 rfl) ?_
  have hr0 := ck_c hf
  replace hf := ck_r hf
  have hr1 := ck_c hf
  replace hf := ck_r hf
  refine W.lcmp hx hb dX12_in_2 (z_ci (z_cmp_e hr0 hr1) ?_)
  have hr2 := ck_c hf
  replace hf := ck_r hf
  refine lv_if_lt (tgt := 17) hx hb dX12_in_3 (by decide) (fun cc => ?_) (fun cc => ?_)
  ·
    replace hf := ite_t ((z_lt0 hr2).mp cc) hf
    clear cc
    refine lv_iconst (v := Int32.ofInt (0 : Int)) hx hb dX12_in_17 (by decide) ?_
    obtain rfl := ou1 hf
    rw [hQ]
    exact W.zret hx hb hr rfl (fun t ht hW => ⟨⟨_, (), rfl, rfl, by rw [ht]; exact hP, va_K.moved hW.alike hK, hD⟩, hS.F ht⟩) hS.2.2 dX12_in_18
  ·
    replace hf := ite_f (fun h9 => cc ((z_lt0 hr2).mpr h9)) hf
    clear cc
    refine lv_lload_n hx hb dX12_in_6 rfl (lv_at hl 0 rfl) ?_
    refine lv_lload hx hb dX12_in_7 (lv_at hl 2 rfl) ?_
    have hr3 := ck_c hf
    replace hf := ck_r hf
    refine W.lcmp hx hb dX12_in_9 (z_ci (z_cmp_e hr0 hr3) ?_)
    have hr4 := ck_c hf
    replace hf := ck_r hf
    refine lv_if_gt (tgt := 17) hx hb dX12_in_10 (by decide) (fun cc => ?_) (fun cc => ?_)
    ·
      replace hf := ite_t ((z_0lt hr4).mp cc) hf
      clear cc
      refine lv_iconst (v := Int32.ofInt (0 : Int)) hx hb dX12_in_17 (by decide) ?_
      obtain rfl := ou1 hf
      rw [hQ]
      exact W.zret hx hb hr rfl (fun t ht hW => ⟨⟨_, (), rfl, rfl, by rw [ht]; exact hP, va_K.moved hW.alike hK, hD⟩, hS.F ht⟩) hS.2.2 dX12_in_18
    ·
      replace hf := ite_f (fun h9 => cc ((z_0lt hr4).mpr h9)) hf
      clear cc
      refine lv_iconst (v := Int32.ofInt (1 : Int)) hx hb dX12_in_13 (by decide) ?_
      refine lv_goto (tgt := 18) hx hb dX12_in_14 (by decide) ?_
      obtain rfl := ou1 hf
      rw [hQ]
      exact W.zret hx hb hr rfl (fun t ht hW => ⟨⟨_, (), rfl, rfl, by rw [ht]; exact hP, va_K.moved hW.alike hK, hD⟩, hS.F ht⟩) hS.2.2 dX12_in_18

noncomputable def f_X12_flag (x0 : Int) : Option (Int) := (ck (z_r32 x0) (if x0 = (0 : Int) then (some (0 : Int)) else (some (1 : Int))))
abbrev rm_X12_flag : Room := { frames := 0, cells := 0, slots := 0, locals := 0 }
set_option maxHeartbeats 8000000 in
set_option maxRecDepth 100000 in
theorem c_X12_flag (l : Launch) (D : va_G) (G : Nat → ClassId) (sz : Nat) (x0 : Int) (r : Int) (hf : f_X12_flag x0 = some r) : Met l yX12_flag wsX12_flag rm_X12_flag (pcG D G [.int (Int32.ofInt x0)] sz []) (qcI D G (Int32.ofInt r) [] (va_A [] sz)) 0 0 (va_A [] sz) := by
  refine Met.ofW (cc := cX12_flag) (maxL := 1) (ret := (some .int)) (by decide) rfl ?_
  intro p e s m args below meth c s₁ B hml hv
  obtain ⟨rfl, hsz, hP, hK, hD0⟩ := hv
  have hx := B.exec
  have hb := B.bytes
  have hr := B.returns
  have hts := atoms_spec (ws := wsX12_flag) B.pre
  have hown : s.vm.findClass RX12 = some m.cls := findClass_of_methodNamed B.named
  have hlocks := B.notSynchronized
  subst hsz
  have hD := hD0.self (sz := s.heap.size)
  generalize hAe : va_A [] s.heap.size = A at hD ⊢
  have hA : ∀ q : Nat, s.heap.size ≤ q → A q := fun q h => by rw [← hAe]; exact Or.inr h
  clear hAe hD0
  have hS : va_S A s.heap s.heap [] := va_S.rf
  have hl := lv_entry ([.int (Int32.ofInt x0)]) (n := 1) (Nat.le_of_ble_eq_true rfl)
  rw [lg_entry_eq]
  generalize (lg_sl ([.int (Int32.ofInt x0)]) ++ List.replicate (1 - (lg_sl ([.int (Int32.ofInt x0)])).length) Slot.unset).toArray = ls at hl ⊢
  have hl : lv_has ls 1 [(0, .int (Int32.ofInt x0))] := hl
  refine W_nameQ (fun Q hQ => ?_)
  obtain ⟨H, hH⟩ : ∃ H, H = s.heap := ⟨_, rfl⟩
  replace hS : va_S A s.heap H [] := by rw [hH]; exact hS
  replace hP : va_P D vwCl [] H := by rw [hH]; exact hP
  rw [← hH]
  clear hH
  unfold f_X12_flag at hf
  refine lv_iload_n hx hb dX12_flag_0 rfl (lv_at hl 0 rfl) ?_
  have hr0 := ck_c hf
  replace hf := ck_r hf
  refine lv_if_eq (tgt := 8) hx hb dX12_flag_1 (by decide) (fun cc => ?_) (fun cc => ?_)
  ·
    replace hf := ite_t ((z_eq0 hr0).mp cc) hf
    clear cc
    refine lv_iconst (v := Int32.ofInt (0 : Int)) hx hb dX12_flag_8 (by decide) ?_
    obtain rfl := ou1 hf
    rw [hQ]
    exact W.iret hx hb hr (fun t ht hW => ⟨⟨_, (), rfl, rfl, by rw [ht]; exact hP, va_K.moved hW.alike hK, hD⟩, hS.F ht⟩) hS.2.2 dX12_flag_9
  ·
    replace hf := ite_f (fun h9 => cc ((z_eq0 hr0).mpr h9)) hf
    clear cc
    refine lv_iconst (v := Int32.ofInt (1 : Int)) hx hb dX12_flag_4 (by decide) ?_
    refine lv_goto (tgt := 9) hx hb dX12_flag_5 (by decide) ?_
    obtain rfl := ou1 hf
    rw [hQ]
    exact W.iret hx hb hr (fun t ht hW => ⟨⟨_, (), rfl, rfl, by rw [ht]; exact hP, va_K.moved hW.alike hK, hD⟩, hS.F ht⟩) hS.2.2 dX12_flag_9

noncomputable def B_X12_firstDraft_39 (J6 : (Int → Int) → Option (Int × Int × Int × Int × (Int → Int) × (Int → Int))) (again39 : Int → (Int → Int) → Option (Int × Int × Int × Int × (Int → Int) × (Int → Int))) (z11 : Int) (w12 : (Int → Int)) : Option (Int × Int × Int × Int × (Int → Int) × (Int → Int)) := (ck (z_r32 z11) (if (7 : Int) ≤ z11 then (J6 w12) else (ck (z_ix z11 7) (bnd (z_up w12 z11 (0 : Int)) (fun (w15 : (Int → Int)) => (bnd (z11 + (1 : Int)) (fun (z16 : Int) => (again39 z16 w15))))))))
noncomputable def B_X12_firstDraft_2 (J3 : (Int → Int) → Option (Int × Int × Int × Int × (Int → Int) × (Int → Int))) (again2 : Int → (Int → Int) → Option (Int × Int × Int × Int × (Int → Int) × (Int → Int))) (z17 : Int) (w18 : (Int → Int)) : Option (Int × Int × Int × Int × (Int → Int) × (Int → Int)) := (ck (z_r32 z17) (if (38 : Int) ≤ z17 then (J3 w18) else (if z17 < (16 : Int) then (ck (z_ix z17 38) (bnd (z_up w18 z17 (0 : Int)) (fun (w21 : (Int → Int)) => (bnd (z17 + (1 : Int)) (fun (z22 : Int) => (again2 z22 w21)))))) else (if (23 : Int) ≤ z17 then (ck (z_ix z17 38) (bnd (z_up w18 z17 (0 : Int)) (fun (w23 : (Int → Int)) => (bnd (z17 + (1 : Int)) (fun (z24 : Int) => (again2 z24 w23)))))) else (ck (z_ix z17 38) (bnd (z_up w18 z17 (1 : Int)) (fun (w25 : (Int → Int)) => (bnd (z17 + (1 : Int)) (fun (z26 : Int) => (again2 z26 w25))))))))))
noncomputable def f_X12_firstDraft (v_p0_draft : (Int → Int)) (v_p0_dNeed : (Int → Int)) : Option (Int × Int × Int × Int × (Int → Int) × (Int → Int)) := (bnd (0 : Int) (fun (z1 : Int) => (jn (fun (w2 : (Int → Int)) => (bnd (0 : Int) (fun (z4 : Int) => (jn (fun (w5 : (Int → Int)) => (bnd (4 : Int) (fun (z7 : Int) => (bnd (0 : Int) (fun (z8 : Int) => (bnd (0 : Int) (fun (z9 : Int) => (bnd (-4 : Int) (fun (z10 : Int) => (some (z7, z8, z9, z10, w2, w5))))))))))) (fun (J6 : (Int → Int) → Option (Int × Int × Int × Int × (Int → Int) × (Int → Int))) => (lq2 (B_X12_firstDraft_39 J6) 1000 z4 v_p0_dNeed)))))) (fun (J3 : (Int → Int) → Option (Int × Int × Int × Int × (Int → Int) × (Int → Int))) => (lq2 (B_X12_firstDraft_2 J3) 1000 z1 v_p0_draft)))))
abbrev rm_X12_firstDraft : Room := { frames := 0, cells := 0, slots := 0, locals := 0 }
theorem inX12_firstDraft_X12 : ∀ w ∈ wsX120, w ∈ wsX12_firstDraft := by first | exact fun w h => List.mem_cons_of_mem _ (List.mem_append_right _ h) | decide +kernel
theorem mwX12_firstDraft_1 : Cond.fieldLink RX12 87 "LadleKingsModel" "dSeats" "I" ∈ wsX12_firstDraft := by first | exact List.mem_of_getElem? (i := 3) rfl | decide +kernel
theorem mwX12_firstDraft_2 : Cond.fieldLink RX12 91 "LadleKingsModel" "dStirs" "I" ∈ wsX12_firstDraft := by first | exact List.mem_of_getElem? (i := 4) rfl | decide +kernel
theorem mwX12_firstDraft_3 : Cond.fieldLink RX12 94 "LadleKingsModel" "told" "I" ∈ wsX12_firstDraft := by first | exact List.mem_of_getElem? (i := 5) rfl | decide +kernel
theorem mwX12_firstDraft_4 : Cond.fieldLink RX12 97 "LadleKingsModel" "highest" "I" ∈ wsX12_firstDraft := by first | exact List.mem_of_getElem? (i := 6) rfl | decide +kernel
theorem mwX12_firstDraft_5 : Cond.fieldLink RX12 29 "LadleKingsModel" "dNeed" "[I" ∈ wsX12_firstDraft := by first | exact List.mem_of_getElem? (i := 2) rfl | decide +kernel
theorem mwX12_firstDraft_6 : Cond.fieldLink RX12 23 "LadleKingsModel" "draft" "[I" ∈ wsX12_firstDraft := by first | exact List.mem_of_getElem? (i := 1) rfl | decide +kernel
set_option maxHeartbeats 8000000 in
set_option maxRecDepth 100000 in
theorem c_X12_firstDraft (l : Launch) (D : va_G) (G : Nat → ClassId) (sz : Nat) (a_p0 : Nat) (a_p0_st : Nat) (a_p0_isKept : Nat) (a_p0_brings : Nat) (a_p0_need : Nat) (a_p0_draft : Nat) (a_p0_dStir : Nat) (a_p0_dNeed : Nat) (a_p0_tape : Nat) (a_p0_places : Nat) (a_p0_stirred : Nat) (a_p0_ways : Nat) (a_p0_waysThen : Nat) (a_p0_stays : Nat) (a_p0_fewest : Nat) (a_p0_bowls : Nat) (a_p0_has : Nat) (a_p0_goesOn : Nat) (a_p0_isThere : Nat) (a_p0_isThereThen : Nat) (a_p0_bestRow : Nat) (a_p0_lanes : Nat) (a_p0_sizes : Nat) (a_p0_cells : Nat) (i_p0_seats : Int) (i_p0_stirs : Int) (i_p0_dSeats : Int) (i_p0_dStirs : Int) (i_p0_told : Int) (i_p0_highest : Int) (i_p0_taped : Int) (i_p0_pos : Int) (i_p0_from : Int) (i_p0_sort : Int) (i_p0_value : Int) (i_p0_fault : Int) (i_p0_wrongAt : Int) (i_p0_torn : Int) (v_p0_draft : (Int → Int)) (v_p0_dNeed : (Int → Int)) (o_i_p0_dSeats : Int) (o_i_p0_dStirs : Int) (o_i_p0_told : Int) (o_i_p0_highest : Int) (o_v_p0_draft : (Int → Int)) (o_v_p0_dNeed : (Int → Int)) (hf : f_X12_firstDraft v_p0_draft v_p0_dNeed = some (o_i_p0_dSeats, o_i_p0_dStirs, o_i_p0_told, o_i_p0_highest, o_v_p0_draft, o_v_p0_dNeed)) : Met l yX12_firstDraft wsX12_firstDraft rm_X12_firstDraft (pcG D G [.ref a_p0] sz [(a_p0, .inr (12, [.ref a_p0_st, .ref a_p0_isKept, .int (Int32.ofInt i_p0_seats), .int (Int32.ofInt i_p0_stirs), .ref a_p0_brings, .ref a_p0_need, .ref a_p0_draft, .int (Int32.ofInt i_p0_dSeats), .int (Int32.ofInt i_p0_dStirs), .ref a_p0_dStir, .ref a_p0_dNeed, .int (Int32.ofInt i_p0_told), .int (Int32.ofInt i_p0_highest), .ref a_p0_tape, .int (Int32.ofInt i_p0_taped), .int (Int32.ofInt i_p0_pos), .int (Int32.ofInt i_p0_from), .int (Int32.ofInt i_p0_sort), .int (Int32.ofInt i_p0_value), .int (Int32.ofInt i_p0_fault), .int (Int32.ofInt i_p0_wrongAt), .ref a_p0_places, .ref a_p0_stirred, .ref a_p0_ways, .ref a_p0_waysThen, .ref a_p0_stays, .ref a_p0_fewest, .ref a_p0_bowls, .ref a_p0_has, .ref a_p0_goesOn, .ref a_p0_isThere, .ref a_p0_isThereThen, .ref a_p0_bestRow, .ref a_p0_lanes, .ref a_p0_sizes, .ref a_p0_cells, .int (Int32.ofInt i_p0_torn)])), (a_p0_draft, .inl (G 1, 38, .inl (zA v_p0_draft))), (a_p0_dNeed, .inl (G 1, 7, .inl (zA v_p0_dNeed)))]) (qcV D G [(a_p0, .inr (12, [.ref a_p0_st, .ref a_p0_isKept, .int (Int32.ofInt i_p0_seats), .int (Int32.ofInt i_p0_stirs), .ref a_p0_brings, .ref a_p0_need, .ref a_p0_draft, .int (Int32.ofInt o_i_p0_dSeats), .int (Int32.ofInt o_i_p0_dStirs), .ref a_p0_dStir, .ref a_p0_dNeed, .int (Int32.ofInt o_i_p0_told), .int (Int32.ofInt o_i_p0_highest), .ref a_p0_tape, .int (Int32.ofInt i_p0_taped), .int (Int32.ofInt i_p0_pos), .int (Int32.ofInt i_p0_from), .int (Int32.ofInt i_p0_sort), .int (Int32.ofInt i_p0_value), .int (Int32.ofInt i_p0_fault), .int (Int32.ofInt i_p0_wrongAt), .ref a_p0_places, .ref a_p0_stirred, .ref a_p0_ways, .ref a_p0_waysThen, .ref a_p0_stays, .ref a_p0_fewest, .ref a_p0_bowls, .ref a_p0_has, .ref a_p0_goesOn, .ref a_p0_isThere, .ref a_p0_isThereThen, .ref a_p0_bestRow, .ref a_p0_lanes, .ref a_p0_sizes, .ref a_p0_cells, .int (Int32.ofInt i_p0_torn)])), (a_p0_draft, .inl (G 1, 38, .inl (zA o_v_p0_draft))), (a_p0_dNeed, .inl (G 1, 7, .inl (zA o_v_p0_dNeed)))] (va_A [(a_p0, .inr (12, [.ref a_p0_st, .ref a_p0_isKept, .int (Int32.ofInt i_p0_seats), .int (Int32.ofInt i_p0_stirs), .ref a_p0_brings, .ref a_p0_need, .ref a_p0_draft, .int (Int32.ofInt i_p0_dSeats), .int (Int32.ofInt i_p0_dStirs), .ref a_p0_dStir, .ref a_p0_dNeed, .int (Int32.ofInt i_p0_told), .int (Int32.ofInt i_p0_highest), .ref a_p0_tape, .int (Int32.ofInt i_p0_taped), .int (Int32.ofInt i_p0_pos), .int (Int32.ofInt i_p0_from), .int (Int32.ofInt i_p0_sort), .int (Int32.ofInt i_p0_value), .int (Int32.ofInt i_p0_fault), .int (Int32.ofInt i_p0_wrongAt), .ref a_p0_places, .ref a_p0_stirred, .ref a_p0_ways, .ref a_p0_waysThen, .ref a_p0_stays, .ref a_p0_fewest, .ref a_p0_bowls, .ref a_p0_has, .ref a_p0_goesOn, .ref a_p0_isThere, .ref a_p0_isThereThen, .ref a_p0_bestRow, .ref a_p0_lanes, .ref a_p0_sizes, .ref a_p0_cells, .int (Int32.ofInt i_p0_torn)])), (a_p0_draft, .inl (G 1, 38, .inl (zA v_p0_draft))), (a_p0_dNeed, .inl (G 1, 7, .inl (zA v_p0_dNeed)))] sz)) 0 0 (va_A [(a_p0, .inr (12, [.ref a_p0_st, .ref a_p0_isKept, .int (Int32.ofInt i_p0_seats), .int (Int32.ofInt i_p0_stirs), .ref a_p0_brings, .ref a_p0_need, .ref a_p0_draft, .int (Int32.ofInt i_p0_dSeats), .int (Int32.ofInt i_p0_dStirs), .ref a_p0_dStir, .ref a_p0_dNeed, .int (Int32.ofInt i_p0_told), .int (Int32.ofInt i_p0_highest), .ref a_p0_tape, .int (Int32.ofInt i_p0_taped), .int (Int32.ofInt i_p0_pos), .int (Int32.ofInt i_p0_from), .int (Int32.ofInt i_p0_sort), .int (Int32.ofInt i_p0_value), .int (Int32.ofInt i_p0_fault), .int (Int32.ofInt i_p0_wrongAt), .ref a_p0_places, .ref a_p0_stirred, .ref a_p0_ways, .ref a_p0_waysThen, .ref a_p0_stays, .ref a_p0_fewest, .ref a_p0_bowls, .ref a_p0_has, .ref a_p0_goesOn, .ref a_p0_isThere, .ref a_p0_isThereThen, .ref a_p0_bestRow, .ref a_p0_lanes, .ref a_p0_sizes, .ref a_p0_cells, .int (Int32.ofInt i_p0_torn)])), (a_p0_draft, .inl (G 1, 38, .inl (zA v_p0_draft))), (a_p0_dNeed, .inl (G 1, 7, .inl (zA v_p0_dNeed)))] sz) := by
  refine Met.ofW (cc := cX12_firstDraft) (maxL := 2) (ret := none) (by decide) rfl ?_
  intro p e s m args below meth c s₁ B hml hv
  obtain ⟨rfl, hsz, hP, hK, hD0⟩ := hv
  have hx := B.exec
  have hb := B.bytes
  have hr := B.returns
  have hts := atoms_spec (ws := wsX12_firstDraft) B.pre
  have hown : s.vm.findClass RX12 = some m.cls := findClass_of_methodNamed B.named
  have hlocks := B.notSynchronized
  subst hsz
  have hD := hD0.self (sz := s.heap.size)
  generalize hAe : va_A [(a_p0, .inr (12, [.ref a_p0_st, .ref a_p0_isKept, .int (Int32.ofInt i_p0_seats), .int (Int32.ofInt i_p0_stirs), .ref a_p0_brings, .ref a_p0_need, .ref a_p0_draft, .int (Int32.ofInt i_p0_dSeats), .int (Int32.ofInt i_p0_dStirs), .ref a_p0_dStir, .ref a_p0_dNeed, .int (Int32.ofInt i_p0_told), .int (Int32.ofInt i_p0_highest), .ref a_p0_tape, .int (Int32.ofInt i_p0_taped), .int (Int32.ofInt i_p0_pos), .int (Int32.ofInt i_p0_from), .int (Int32.ofInt i_p0_sort), .int (Int32.ofInt i_p0_value), .int (Int32.ofInt i_p0_fault), .int (Int32.ofInt i_p0_wrongAt), .ref a_p0_places, .ref a_p0_stirred, .ref a_p0_ways, .ref a_p0_waysThen, .ref a_p0_stays, .ref a_p0_fewest, .ref a_p0_bowls, .ref a_p0_has, .ref a_p0_goesOn, .ref a_p0_isThere, .ref a_p0_isThereThen, .ref a_p0_bestRow, .ref a_p0_lanes, .ref a_p0_sizes, .ref a_p0_cells, .int (Int32.ofInt i_p0_torn)])), (a_p0_draft, .inl (G 1, 38, .inl (zA v_p0_draft))), (a_p0_dNeed, .inl (G 1, 7, .inl (zA v_p0_dNeed)))] s.heap.size = A at hD ⊢
  have hA : ∀ q : Nat, s.heap.size ≤ q → A q := fun q h => by rw [← hAe]; exact Or.inr h
  clear hAe hD0
  have hS : va_S A s.heap s.heap [] := va_S.rf
  have hl := lv_entry ([.ref a_p0]) (n := 2) (Nat.le_of_ble_eq_true rfl)
  rw [lg_entry_eq]
  generalize (lg_sl ([.ref a_p0]) ++ List.replicate (2 - (lg_sl ([.ref a_p0])).length) Slot.unset).toArray = ls at hl ⊢
  have hl : lv_has ls 2 [(0, .ref a_p0)] := hl
  refine W_nameQ (fun Q hQ => ?_)
  obtain ⟨H, hH⟩ : ∃ H, H = s.heap := ⟨_, rfl⟩
  replace hS : va_S A s.heap H [] := by rw [hH]; exact hS
  replace hP : va_P D vwCl [(a_p0, .inr (12, [.ref a_p0_st, .ref a_p0_isKept, .int (Int32.ofInt i_p0_seats), .int (Int32.ofInt i_p0_stirs), .ref a_p0_brings, .ref a_p0_need, .ref a_p0_draft, .int (Int32.ofInt i_p0_dSeats), .int (Int32.ofInt i_p0_dStirs), .ref a_p0_dStir, .ref a_p0_dNeed, .int (Int32.ofInt i_p0_told), .int (Int32.ofInt i_p0_highest), .ref a_p0_tape, .int (Int32.ofInt i_p0_taped), .int (Int32.ofInt i_p0_pos), .int (Int32.ofInt i_p0_from), .int (Int32.ofInt i_p0_sort), .int (Int32.ofInt i_p0_value), .int (Int32.ofInt i_p0_fault), .int (Int32.ofInt i_p0_wrongAt), .ref a_p0_places, .ref a_p0_stirred, .ref a_p0_ways, .ref a_p0_waysThen, .ref a_p0_stays, .ref a_p0_fewest, .ref a_p0_bowls, .ref a_p0_has, .ref a_p0_goesOn, .ref a_p0_isThere, .ref a_p0_isThereThen, .ref a_p0_bestRow, .ref a_p0_lanes, .ref a_p0_sizes, .ref a_p0_cells, .int (Int32.ofInt i_p0_torn)])), (a_p0_draft, .inl (G 1, 38, .inl (zA v_p0_draft))), (a_p0_dNeed, .inl (G 1, 7, .inl (zA v_p0_dNeed)))] H := by rw [hH]; exact hP
  rw [← hH]
  clear hH
  unfold f_X12_firstDraft at hf
  refine lv_iconst (v := Int32.ofInt (0 : Int)) hx hb dX12_firstDraft_0 (by decide) ?_
  refine z_topi (fun z1 ez => ?_)
  replace hf := bnd_s hf ez
  clear ez
  refine lv_istore_n (lv' := [(1, .int (Int32.ofInt z1)), (0, .ref a_p0)]) hx hb dX12_firstDraft_1 rfl hl (by decide) rfl (fun ls hl => ?_)
  have hq := jn_i hf
  clear hf
  obtain ⟨J3, eJ3, hf⟩ := hq
  have hJ3 : ∀ (w2 : (Int → Int)) (ls : Array Slot) (H : Heap) (locs : List Loc), lv_has ls 2 [(0, .ref a_p0)] → va_P D vwCl [(a_p0, .inr (12, [.ref a_p0_st, .ref a_p0_isKept, .int (Int32.ofInt i_p0_seats), .int (Int32.ofInt i_p0_stirs), .ref a_p0_brings, .ref a_p0_need, .ref a_p0_draft, .int (Int32.ofInt i_p0_dSeats), .int (Int32.ofInt i_p0_dStirs), .ref a_p0_dStir, .ref a_p0_dNeed, .int (Int32.ofInt i_p0_told), .int (Int32.ofInt i_p0_highest), .ref a_p0_tape, .int (Int32.ofInt i_p0_taped), .int (Int32.ofInt i_p0_pos), .int (Int32.ofInt i_p0_from), .int (Int32.ofInt i_p0_sort), .int (Int32.ofInt i_p0_value), .int (Int32.ofInt i_p0_fault), .int (Int32.ofInt i_p0_wrongAt), .ref a_p0_places, .ref a_p0_stirred, .ref a_p0_ways, .ref a_p0_waysThen, .ref a_p0_stays, .ref a_p0_fewest, .ref a_p0_bowls, .ref a_p0_has, .ref a_p0_goesOn, .ref a_p0_isThere, .ref a_p0_isThereThen, .ref a_p0_bestRow, .ref a_p0_lanes, .ref a_p0_sizes, .ref a_p0_cells, .int (Int32.ofInt i_p0_torn)])), (a_p0_draft, .inl (G 1, 38, .inl (zA w2))), (a_p0_dNeed, .inl (G 1, 7, .inl (zA v_p0_dNeed)))] H → va_D A [(a_p0, .inr (12, [.ref a_p0_st, .ref a_p0_isKept, .int (Int32.ofInt i_p0_seats), .int (Int32.ofInt i_p0_stirs), .ref a_p0_brings, .ref a_p0_need, .ref a_p0_draft, .int (Int32.ofInt i_p0_dSeats), .int (Int32.ofInt i_p0_dStirs), .ref a_p0_dStir, .ref a_p0_dNeed, .int (Int32.ofInt i_p0_told), .int (Int32.ofInt i_p0_highest), .ref a_p0_tape, .int (Int32.ofInt i_p0_taped), .int (Int32.ofInt i_p0_pos), .int (Int32.ofInt i_p0_from), .int (Int32.ofInt i_p0_sort), .int (Int32.ofInt i_p0_value), .int (Int32.ofInt i_p0_fault), .int (Int32.ofInt i_p0_wrongAt), .ref a_p0_places, .ref a_p0_stirred, .ref a_p0_ways, .ref a_p0_waysThen, .ref a_p0_stays, .ref a_p0_fewest, .ref a_p0_bowls, .ref a_p0_has, .ref a_p0_goesOn, .ref a_p0_isThere, .ref a_p0_isThereThen, .ref a_p0_bestRow, .ref a_p0_lanes, .ref a_p0_sizes, .ref a_p0_cells, .int (Int32.ofInt i_p0_torn)])), (a_p0_draft, .inl (G 1, 38, .inl (zA w2))), (a_p0_dNeed, .inl (G 1, 7, .inl (zA v_p0_dNeed)))] → va_S A s.heap H locs → J3 w2 = some (o_i_p0_dSeats, o_i_p0_dStirs, o_i_p0_told, o_i_p0_highest, o_v_p0_draft, o_v_p0_dNeed) → W p l e rm_X12_firstDraft s m ([.ref a_p0] : List Value).toArray below meth c H locs 0 0 Q (F0 m 37 ls []) := by
    clear hf hl hP hD hS
    intro w2 ls H locs hl hP hD hS hf
    replace hf := jn1_s eJ3 hf
    refine lv_iconst (v := Int32.ofInt (0 : Int)) hx hb dX12_firstDraft_37 (by decide) ?_
    refine z_topi (fun z4 ez => ?_)
    replace hf := bnd_s hf ez
    clear ez
    refine lv_istore_n (lv' := [(1, .int (Int32.ofInt z4)), (0, .ref a_p0)]) hx hb dX12_firstDraft_38 rfl hl (by decide) rfl (fun ls hl => ?_)
    have hq := jn_i hf
    clear hf
    obtain ⟨J6, eJ6, hf⟩ := hq
    have hJ6 : ∀ (w5 : (Int → Int)) (ls : Array Slot) (H : Heap) (locs : List Loc), lv_has ls 2 [(0, .ref a_p0)] → va_P D vwCl [(a_p0, .inr (12, [.ref a_p0_st, .ref a_p0_isKept, .int (Int32.ofInt i_p0_seats), .int (Int32.ofInt i_p0_stirs), .ref a_p0_brings, .ref a_p0_need, .ref a_p0_draft, .int (Int32.ofInt i_p0_dSeats), .int (Int32.ofInt i_p0_dStirs), .ref a_p0_dStir, .ref a_p0_dNeed, .int (Int32.ofInt i_p0_told), .int (Int32.ofInt i_p0_highest), .ref a_p0_tape, .int (Int32.ofInt i_p0_taped), .int (Int32.ofInt i_p0_pos), .int (Int32.ofInt i_p0_from), .int (Int32.ofInt i_p0_sort), .int (Int32.ofInt i_p0_value), .int (Int32.ofInt i_p0_fault), .int (Int32.ofInt i_p0_wrongAt), .ref a_p0_places, .ref a_p0_stirred, .ref a_p0_ways, .ref a_p0_waysThen, .ref a_p0_stays, .ref a_p0_fewest, .ref a_p0_bowls, .ref a_p0_has, .ref a_p0_goesOn, .ref a_p0_isThere, .ref a_p0_isThereThen, .ref a_p0_bestRow, .ref a_p0_lanes, .ref a_p0_sizes, .ref a_p0_cells, .int (Int32.ofInt i_p0_torn)])), (a_p0_draft, .inl (G 1, 38, .inl (zA w2))), (a_p0_dNeed, .inl (G 1, 7, .inl (zA w5)))] H → va_D A [(a_p0, .inr (12, [.ref a_p0_st, .ref a_p0_isKept, .int (Int32.ofInt i_p0_seats), .int (Int32.ofInt i_p0_stirs), .ref a_p0_brings, .ref a_p0_need, .ref a_p0_draft, .int (Int32.ofInt i_p0_dSeats), .int (Int32.ofInt i_p0_dStirs), .ref a_p0_dStir, .ref a_p0_dNeed, .int (Int32.ofInt i_p0_told), .int (Int32.ofInt i_p0_highest), .ref a_p0_tape, .int (Int32.ofInt i_p0_taped), .int (Int32.ofInt i_p0_pos), .int (Int32.ofInt i_p0_from), .int (Int32.ofInt i_p0_sort), .int (Int32.ofInt i_p0_value), .int (Int32.ofInt i_p0_fault), .int (Int32.ofInt i_p0_wrongAt), .ref a_p0_places, .ref a_p0_stirred, .ref a_p0_ways, .ref a_p0_waysThen, .ref a_p0_stays, .ref a_p0_fewest, .ref a_p0_bowls, .ref a_p0_has, .ref a_p0_goesOn, .ref a_p0_isThere, .ref a_p0_isThereThen, .ref a_p0_bestRow, .ref a_p0_lanes, .ref a_p0_sizes, .ref a_p0_cells, .int (Int32.ofInt i_p0_torn)])), (a_p0_draft, .inl (G 1, 38, .inl (zA w2))), (a_p0_dNeed, .inl (G 1, 7, .inl (zA w5)))] → va_S A s.heap H locs → J6 w5 = some (o_i_p0_dSeats, o_i_p0_dStirs, o_i_p0_told, o_i_p0_highest, o_v_p0_draft, o_v_p0_dNeed) → W p l e rm_X12_firstDraft s m ([.ref a_p0] : List Value).toArray below meth c H locs 0 0 Q (F0 m 58 ls []) := by
      clear hf hl hP hD hS
      intro w5 ls H locs hl hP hD hS hf
      replace hf := jn1_s eJ6 hf
      refine lv_aload_n hx hb dX12_firstDraft_58 rfl (lv_at hl 0 rfl) ?_
      refine lv_iconst (v := Int32.ofInt (4 : Int)) hx hb dX12_firstDraft_59 (by decide) ?_
      refine z_topi (fun z7 ez => ?_)
      replace hf := bnd_s hf ez
      clear ez
      refine va_put (D := D) (ci := 12) (v := .int (Int32.ofInt z7)) (ty := .int) (C := RX12) (T := TX12) (N := 37) hx hb hts inX12_firstDraft_X12 tyX12 tyX12_ok nmX12 hown hK hP hD hS 0 rfl rfl 7 (by decide) (hts _ mwX12_firstDraft_1) (fun _ h9 => h9) rfl (by decide +kernel) rfl rfl (Nat.le_of_ble_eq_true rfl) dX12_firstDraft_60 (fun H locs hP hD hS => ?_)
      have hP : va_P D vwCl [(a_p0, .inr (12, [.ref a_p0_st, .ref a_p0_isKept, .int (Int32.ofInt i_p0_seats), .int (Int32.ofInt i_p0_stirs), .ref a_p0_brings, .ref a_p0_need, .ref a_p0_draft, .int (Int32.ofInt z7), .int (Int32.ofInt i_p0_dStirs), .ref a_p0_dStir, .ref a_p0_dNeed, .int (Int32.ofInt i_p0_told), .int (Int32.ofInt i_p0_highest), .ref a_p0_tape, .int (Int32.ofInt i_p0_taped), .int (Int32.ofInt i_p0_pos), .int (Int32.ofInt i_p0_from), .int (Int32.ofInt i_p0_sort), .int (Int32.ofInt i_p0_value), .int (Int32.ofInt i_p0_fault), .int (Int32.ofInt i_p0_wrongAt), .ref a_p0_places, .ref a_p0_stirred, .ref a_p0_ways, .ref a_p0_waysThen, .ref a_p0_stays, .ref a_p0_fewest, .ref a_p0_bowls, .ref a_p0_has, .ref a_p0_goesOn, .ref a_p0_isThere, .ref a_p0_isThereThen, .ref a_p0_bestRow, .ref a_p0_lanes, .ref a_p0_sizes, .ref a_p0_cells, .int (Int32.ofInt i_p0_torn)])), (a_p0_draft, .inl (G 1, 38, .inl (zA w2))), (a_p0_dNeed, .inl (G 1, 7, .inl (zA w5)))] H := hP
      have hD : va_D A [(a_p0, .inr (12, [.ref a_p0_st, .ref a_p0_isKept, .int (Int32.ofInt i_p0_seats), .int (Int32.ofInt i_p0_stirs), .ref a_p0_brings, .ref a_p0_need, .ref a_p0_draft, .int (Int32.ofInt z7), .int (Int32.ofInt i_p0_dStirs), .ref a_p0_dStir, .ref a_p0_dNeed, .int (Int32.ofInt i_p0_told), .int (Int32.ofInt i_p0_highest), .ref a_p0_tape, .int (Int32.ofInt i_p0_taped), .int (Int32.ofInt i_p0_pos), .int (Int32.ofInt i_p0_from), .int (Int32.ofInt i_p0_sort), .int (Int32.ofInt i_p0_value), .int (Int32.ofInt i_p0_fault), .int (Int32.ofInt i_p0_wrongAt), .ref a_p0_places, .ref a_p0_stirred, .ref a_p0_ways, .ref a_p0_waysThen, .ref a_p0_stays, .ref a_p0_fewest, .ref a_p0_bowls, .ref a_p0_has, .ref a_p0_goesOn, .ref a_p0_isThere, .ref a_p0_isThereThen, .ref a_p0_bestRow, .ref a_p0_lanes, .ref a_p0_sizes, .ref a_p0_cells, .int (Int32.ofInt i_p0_torn)])), (a_p0_draft, .inl (G 1, 38, .inl (zA w2))), (a_p0_dNeed, .inl (G 1, 7, .inl (zA w5)))] := hD
      refine lv_aload_n hx hb dX12_firstDraft_63 rfl (lv_at hl 0 rfl) ?_
      refine lv_iconst (v := Int32.ofInt (0 : Int)) hx hb dX12_firstDraft_64 (by decide) ?_
      refine z_topi (fun z8 ez => ?_)
      replace hf := bnd_s hf ez
      clear ez
      refine va_put (D := D) (ci := 12) (v := .int (Int32.ofInt z8)) (ty := .int) (C := RX12) (T := TX12) (N := 37) hx hb hts inX12_firstDraft_X12 tyX12 tyX12_ok nmX12 hown hK hP hD hS 0 rfl rfl 8 (by decide) (hts _ mwX12_firstDraft_2) (fun _ h9 => h9) rfl (by decide +kernel) rfl rfl (Nat.le_of_ble_eq_true rfl) dX12_firstDraft_65 (fun H locs hP hD hS => ?_)
      have hP : va_P D vwCl [(a_p0, .inr (12, [.ref a_p0_st, .ref a_p0_isKept, .int (Int32.ofInt i_p0_seats), .int (Int32.ofInt i_p0_stirs), .ref a_p0_brings, .ref a_p0_need, .ref a_p0_draft, .int (Int32.ofInt z7), .int (Int32.ofInt z8), .ref a_p0_dStir, .ref a_p0_dNeed, .int (Int32.ofInt i_p0_told), .int (Int32.ofInt i_p0_highest), .ref a_p0_tape, .int (Int32.ofInt i_p0_taped), .int (Int32.ofInt i_p0_pos), .int (Int32.ofInt i_p0_from), .int (Int32.ofInt i_p0_sort), .int (Int32.ofInt i_p0_value), .int (Int32.ofInt i_p0_fault), .int (Int32.ofInt i_p0_wrongAt), .ref a_p0_places, .ref a_p0_stirred, .ref a_p0_ways, .ref a_p0_waysThen, .ref a_p0_stays, .ref a_p0_fewest, .ref a_p0_bowls, .ref a_p0_has, .ref a_p0_goesOn, .ref a_p0_isThere, .ref a_p0_isThereThen, .ref a_p0_bestRow, .ref a_p0_lanes, .ref a_p0_sizes, .ref a_p0_cells, .int (Int32.ofInt i_p0_torn)])), (a_p0_draft, .inl (G 1, 38, .inl (zA w2))), (a_p0_dNeed, .inl (G 1, 7, .inl (zA w5)))] H := hP
      have hD : va_D A [(a_p0, .inr (12, [.ref a_p0_st, .ref a_p0_isKept, .int (Int32.ofInt i_p0_seats), .int (Int32.ofInt i_p0_stirs), .ref a_p0_brings, .ref a_p0_need, .ref a_p0_draft, .int (Int32.ofInt z7), .int (Int32.ofInt z8), .ref a_p0_dStir, .ref a_p0_dNeed, .int (Int32.ofInt i_p0_told), .int (Int32.ofInt i_p0_highest), .ref a_p0_tape, .int (Int32.ofInt i_p0_taped), .int (Int32.ofInt i_p0_pos), .int (Int32.ofInt i_p0_from), .int (Int32.ofInt i_p0_sort), .int (Int32.ofInt i_p0_value), .int (Int32.ofInt i_p0_fault), .int (Int32.ofInt i_p0_wrongAt), .ref a_p0_places, .ref a_p0_stirred, .ref a_p0_ways, .ref a_p0_waysThen, .ref a_p0_stays, .ref a_p0_fewest, .ref a_p0_bowls, .ref a_p0_has, .ref a_p0_goesOn, .ref a_p0_isThere, .ref a_p0_isThereThen, .ref a_p0_bestRow, .ref a_p0_lanes, .ref a_p0_sizes, .ref a_p0_cells, .int (Int32.ofInt i_p0_torn)])), (a_p0_draft, .inl (G 1, 38, .inl (zA w2))), (a_p0_dNeed, .inl (G 1, 7, .inl (zA w5)))] := hD
      refine lv_aload_n hx hb dX12_firstDraft_68 rfl (lv_at hl 0 rfl) ?_
      refine lv_iconst (v := Int32.ofInt (0 : Int)) hx hb dX12_firstDraft_69 (by decide) ?_
      refine z_topi (fun z9 ez => ?_)
      replace hf := bnd_s hf ez
      clear ez
      refine va_put (D := D) (ci := 12) (v := .int (Int32.ofInt z9)) (ty := .int) (C := RX12) (T := TX12) (N := 37) hx hb hts inX12_firstDraft_X12 tyX12 tyX12_ok nmX12 hown hK hP hD hS 0 rfl rfl 11 (by decide) (hts _ mwX12_firstDraft_3) (fun _ h9 => h9) rfl (by decide +kernel) rfl rfl (Nat.le_of_ble_eq_true rfl) dX12_firstDraft_70 (fun H locs hP hD hS => ?_)
      have hP : va_P D vwCl [(a_p0, .inr (12, [.ref a_p0_st, .ref a_p0_isKept, .int (Int32.ofInt i_p0_seats), .int (Int32.ofInt i_p0_stirs), .ref a_p0_brings, .ref a_p0_need, .ref a_p0_draft, .int (Int32.ofInt z7), .int (Int32.ofInt z8), .ref a_p0_dStir, .ref a_p0_dNeed, .int (Int32.ofInt z9), .int (Int32.ofInt i_p0_highest), .ref a_p0_tape, .int (Int32.ofInt i_p0_taped), .int (Int32.ofInt i_p0_pos), .int (Int32.ofInt i_p0_from), .int (Int32.ofInt i_p0_sort), .int (Int32.ofInt i_p0_value), .int (Int32.ofInt i_p0_fault), .int (Int32.ofInt i_p0_wrongAt), .ref a_p0_places, .ref a_p0_stirred, .ref a_p0_ways, .ref a_p0_waysThen, .ref a_p0_stays, .ref a_p0_fewest, .ref a_p0_bowls, .ref a_p0_has, .ref a_p0_goesOn, .ref a_p0_isThere, .ref a_p0_isThereThen, .ref a_p0_bestRow, .ref a_p0_lanes, .ref a_p0_sizes, .ref a_p0_cells, .int (Int32.ofInt i_p0_torn)])), (a_p0_draft, .inl (G 1, 38, .inl (zA w2))), (a_p0_dNeed, .inl (G 1, 7, .inl (zA w5)))] H := hP
      have hD : va_D A [(a_p0, .inr (12, [.ref a_p0_st, .ref a_p0_isKept, .int (Int32.ofInt i_p0_seats), .int (Int32.ofInt i_p0_stirs), .ref a_p0_brings, .ref a_p0_need, .ref a_p0_draft, .int (Int32.ofInt z7), .int (Int32.ofInt z8), .ref a_p0_dStir, .ref a_p0_dNeed, .int (Int32.ofInt z9), .int (Int32.ofInt i_p0_highest), .ref a_p0_tape, .int (Int32.ofInt i_p0_taped), .int (Int32.ofInt i_p0_pos), .int (Int32.ofInt i_p0_from), .int (Int32.ofInt i_p0_sort), .int (Int32.ofInt i_p0_value), .int (Int32.ofInt i_p0_fault), .int (Int32.ofInt i_p0_wrongAt), .ref a_p0_places, .ref a_p0_stirred, .ref a_p0_ways, .ref a_p0_waysThen, .ref a_p0_stays, .ref a_p0_fewest, .ref a_p0_bowls, .ref a_p0_has, .ref a_p0_goesOn, .ref a_p0_isThere, .ref a_p0_isThereThen, .ref a_p0_bestRow, .ref a_p0_lanes, .ref a_p0_sizes, .ref a_p0_cells, .int (Int32.ofInt i_p0_torn)])), (a_p0_draft, .inl (G 1, 38, .inl (zA w2))), (a_p0_dNeed, .inl (G 1, 7, .inl (zA w5)))] := hD
      refine lv_aload_n hx hb dX12_firstDraft_73 rfl (lv_at hl 0 rfl) ?_
      refine lv_bipush (v := Int32.ofInt (-4 : Int)) hx hb dX12_firstDraft_74 (by decide) ?_
      refine z_topi (fun z10 ez => ?_)
      replace hf := bnd_s hf ez
      clear ez
      refine va_put (D := D) (ci := 12) (v := .int (Int32.ofInt z10)) (ty := .int) (C := RX12) (T := TX12) (N := 37) hx hb hts inX12_firstDraft_X12 tyX12 tyX12_ok nmX12 hown hK hP hD hS 0 rfl rfl 12 (by decide) (hts _ mwX12_firstDraft_4) (fun _ h9 => h9) rfl (by decide +kernel) rfl rfl (Nat.le_of_ble_eq_true rfl) dX12_firstDraft_76 (fun H locs hP hD hS => ?_)
      have hP : va_P D vwCl [(a_p0, .inr (12, [.ref a_p0_st, .ref a_p0_isKept, .int (Int32.ofInt i_p0_seats), .int (Int32.ofInt i_p0_stirs), .ref a_p0_brings, .ref a_p0_need, .ref a_p0_draft, .int (Int32.ofInt z7), .int (Int32.ofInt z8), .ref a_p0_dStir, .ref a_p0_dNeed, .int (Int32.ofInt z9), .int (Int32.ofInt z10), .ref a_p0_tape, .int (Int32.ofInt i_p0_taped), .int (Int32.ofInt i_p0_pos), .int (Int32.ofInt i_p0_from), .int (Int32.ofInt i_p0_sort), .int (Int32.ofInt i_p0_value), .int (Int32.ofInt i_p0_fault), .int (Int32.ofInt i_p0_wrongAt), .ref a_p0_places, .ref a_p0_stirred, .ref a_p0_ways, .ref a_p0_waysThen, .ref a_p0_stays, .ref a_p0_fewest, .ref a_p0_bowls, .ref a_p0_has, .ref a_p0_goesOn, .ref a_p0_isThere, .ref a_p0_isThereThen, .ref a_p0_bestRow, .ref a_p0_lanes, .ref a_p0_sizes, .ref a_p0_cells, .int (Int32.ofInt i_p0_torn)])), (a_p0_draft, .inl (G 1, 38, .inl (zA w2))), (a_p0_dNeed, .inl (G 1, 7, .inl (zA w5)))] H := hP
      have hD : va_D A [(a_p0, .inr (12, [.ref a_p0_st, .ref a_p0_isKept, .int (Int32.ofInt i_p0_seats), .int (Int32.ofInt i_p0_stirs), .ref a_p0_brings, .ref a_p0_need, .ref a_p0_draft, .int (Int32.ofInt z7), .int (Int32.ofInt z8), .ref a_p0_dStir, .ref a_p0_dNeed, .int (Int32.ofInt z9), .int (Int32.ofInt z10), .ref a_p0_tape, .int (Int32.ofInt i_p0_taped), .int (Int32.ofInt i_p0_pos), .int (Int32.ofInt i_p0_from), .int (Int32.ofInt i_p0_sort), .int (Int32.ofInt i_p0_value), .int (Int32.ofInt i_p0_fault), .int (Int32.ofInt i_p0_wrongAt), .ref a_p0_places, .ref a_p0_stirred, .ref a_p0_ways, .ref a_p0_waysThen, .ref a_p0_stays, .ref a_p0_fewest, .ref a_p0_bowls, .ref a_p0_has, .ref a_p0_goesOn, .ref a_p0_isThere, .ref a_p0_isThereThen, .ref a_p0_bestRow, .ref a_p0_lanes, .ref a_p0_sizes, .ref a_p0_cells, .int (Int32.ofInt i_p0_torn)])), (a_p0_draft, .inl (G 1, 38, .inl (zA w2))), (a_p0_dNeed, .inl (G 1, 7, .inl (zA w5)))] := hD
      obtain ⟨rfl, rfl, rfl, rfl, rfl, rfl⟩ := ou6 hf
      rw [hQ]
      exact W.vret hx hb hr (fun t ht hW => ⟨⟨(), rfl, trivial, by rw [ht]; exact hP, va_K.moved hW.alike hK, hD⟩, hS.F ht⟩) hS.2.2 dX12_firstDraft_79
    have hq := lq2_i hf
    clear hf
    obtain ⟨B13, eB13, NB13, hf⟩ := hq
    have hB13 : ∀ (n : Nat) (z11 : Int) (w12 : (Int → Int)) (ls : Array Slot) (H : Heap) (locs : List Loc), lv_has ls 2 [(1, .int (Int32.ofInt z11)), (0, .ref a_p0)] → va_P D vwCl [(a_p0, .inr (12, [.ref a_p0_st, .ref a_p0_isKept, .int (Int32.ofInt i_p0_seats), .int (Int32.ofInt i_p0_stirs), .ref a_p0_brings, .ref a_p0_need, .ref a_p0_draft, .int (Int32.ofInt i_p0_dSeats), .int (Int32.ofInt i_p0_dStirs), .ref a_p0_dStir, .ref a_p0_dNeed, .int (Int32.ofInt i_p0_told), .int (Int32.ofInt i_p0_highest), .ref a_p0_tape, .int (Int32.ofInt i_p0_taped), .int (Int32.ofInt i_p0_pos), .int (Int32.ofInt i_p0_from), .int (Int32.ofInt i_p0_sort), .int (Int32.ofInt i_p0_value), .int (Int32.ofInt i_p0_fault), .int (Int32.ofInt i_p0_wrongAt), .ref a_p0_places, .ref a_p0_stirred, .ref a_p0_ways, .ref a_p0_waysThen, .ref a_p0_stays, .ref a_p0_fewest, .ref a_p0_bowls, .ref a_p0_has, .ref a_p0_goesOn, .ref a_p0_isThere, .ref a_p0_isThereThen, .ref a_p0_bestRow, .ref a_p0_lanes, .ref a_p0_sizes, .ref a_p0_cells, .int (Int32.ofInt i_p0_torn)])), (a_p0_draft, .inl (G 1, 38, .inl (zA w2))), (a_p0_dNeed, .inl (G 1, 7, .inl (zA w12)))] H → va_D A [(a_p0, .inr (12, [.ref a_p0_st, .ref a_p0_isKept, .int (Int32.ofInt i_p0_seats), .int (Int32.ofInt i_p0_stirs), .ref a_p0_brings, .ref a_p0_need, .ref a_p0_draft, .int (Int32.ofInt i_p0_dSeats), .int (Int32.ofInt i_p0_dStirs), .ref a_p0_dStir, .ref a_p0_dNeed, .int (Int32.ofInt i_p0_told), .int (Int32.ofInt i_p0_highest), .ref a_p0_tape, .int (Int32.ofInt i_p0_taped), .int (Int32.ofInt i_p0_pos), .int (Int32.ofInt i_p0_from), .int (Int32.ofInt i_p0_sort), .int (Int32.ofInt i_p0_value), .int (Int32.ofInt i_p0_fault), .int (Int32.ofInt i_p0_wrongAt), .ref a_p0_places, .ref a_p0_stirred, .ref a_p0_ways, .ref a_p0_waysThen, .ref a_p0_stays, .ref a_p0_fewest, .ref a_p0_bowls, .ref a_p0_has, .ref a_p0_goesOn, .ref a_p0_isThere, .ref a_p0_isThereThen, .ref a_p0_bestRow, .ref a_p0_lanes, .ref a_p0_sizes, .ref a_p0_cells, .int (Int32.ofInt i_p0_torn)])), (a_p0_draft, .inl (G 1, 38, .inl (zA w2))), (a_p0_dNeed, .inl (G 1, 7, .inl (zA w12)))] → va_S A s.heap H locs → lq2 B13 n z11 w12 = some (o_i_p0_dSeats, o_i_p0_dStirs, o_i_p0_told, o_i_p0_highest, o_v_p0_draft, o_v_p0_dNeed) → W p l e rm_X12_firstDraft s m ([.ref a_p0] : List Value).toArray below meth c H locs 0 0 Q (F0 m 39 ls []) := by
      clear hf hl hP hD hS
      intro n
      induction n with
      | zero =>
        intro z11 w12 ls H locs hl hP hD hS hf
        exact (lq2_0 hf).elim
      | succ n ih39 =>
        intro z11 w12 ls H locs hl hP hD hS hf
        replace hf := lq2_s eB13 hf
        unfold B_X12_firstDraft_39 at hf
        refine lv_iload_n hx hb dX12_firstDraft_39 rfl (lv_at hl 0 rfl) ?_
        refine lv_bipush (v := Int32.ofInt (7 : Int)) hx hb dX12_firstDraft_40 (by decide) ?_
        have hr13 := ck_c hf
        replace hf := ck_r hf
        refine lv_icmp_ge (tgt := 58) hx hb dX12_firstDraft_42 (by decide) (fun cc => ?_) (fun cc => ?_)
        ·
          replace hf := ite_t ((z_le (by decide) hr13).mp cc) hf
          clear cc
          exact hJ6 _ _ _ _ (lv_sub hl [1] rfl) hP hD hS hf
        ·
          replace hf := ite_f (fun h9 => cc ((z_le (by decide) hr13).mpr h9)) hf
          clear cc
          refine lv_aload_n hx hb dX12_firstDraft_45 rfl (lv_at hl 1 rfl) ?_
          refine va_get (D := D) (ci := 12) (v := .ref a_p0_dNeed) (C := RX12) (T := TX12) (N := 37) hx hb hts inX12_firstDraft_X12 hown hK hP 0 rfl rfl 10 (by decide) (hts _ mwX12_firstDraft_5) (fun _ h9 => h9) rfl dX12_firstDraft_46 ?_
          refine lv_iload_n hx hb dX12_firstDraft_49 rfl (lv_at hl 0 rfl) ?_
          refine lv_iconst (v := Int32.ofInt (0 : Int)) hx hb dX12_firstDraft_50 (by decide) ?_
          have hc := ck_c hf
          replace hf := ck_r hf
          refine zs_iast (wf := fun w15 => [(a_p0, .inr (12, [.ref a_p0_st, .ref a_p0_isKept, .int (Int32.ofInt i_p0_seats), .int (Int32.ofInt i_p0_stirs), .ref a_p0_brings, .ref a_p0_need, .ref a_p0_draft, .int (Int32.ofInt i_p0_dSeats), .int (Int32.ofInt i_p0_dStirs), .ref a_p0_dStir, .ref a_p0_dNeed, .int (Int32.ofInt i_p0_told), .int (Int32.ofInt i_p0_highest), .ref a_p0_tape, .int (Int32.ofInt i_p0_taped), .int (Int32.ofInt i_p0_pos), .int (Int32.ofInt i_p0_from), .int (Int32.ofInt i_p0_sort), .int (Int32.ofInt i_p0_value), .int (Int32.ofInt i_p0_fault), .int (Int32.ofInt i_p0_wrongAt), .ref a_p0_places, .ref a_p0_stirred, .ref a_p0_ways, .ref a_p0_waysThen, .ref a_p0_stays, .ref a_p0_fewest, .ref a_p0_bowls, .ref a_p0_has, .ref a_p0_goesOn, .ref a_p0_isThere, .ref a_p0_isThereThen, .ref a_p0_bestRow, .ref a_p0_lanes, .ref a_p0_sizes, .ref a_p0_cells, .int (Int32.ofInt i_p0_torn)])), (a_p0_draft, .inl (G 1, 38, .inl (zA w2))), (a_p0_dNeed, .inl (G 1, 7, .inl (zA w15)))]) hx hb hK hP hD hS 2 1 rfl rfl hc dX12_firstDraft_51 (fun _ => rfl) (fun w15 ez H locs hP hD hS => ?_)
          replace hf := bnd_s hf ez
          clear ez hc
          obtain ⟨z16, ez⟩ : ∃ y : Int, y = (z11 + (1 : Int)) := ⟨_, rfl⟩
          replace hf := bnd_s hf ez
          refine lv_iinc (v := Int32.ofInt z16) (lv' := [(1, .int (Int32.ofInt z16)), (0, .ref a_p0)]) hx hb dX12_firstDraft_52 hl (k := 0) rfl (by rw [ez]; exact (Int32.ofInt_add _ _).symm) (by decide) rfl (fun ls hl => ?_)
          clear ez
          refine lv_goto (tgt := 39) hx hb dX12_firstDraft_55 (by decide) ?_
          exact ih39 _ _ _ _ _ (lv_sub hl [0, 1] rfl) hP hD hS hf
    exact hB13 _ _ _ _ _ _ (lv_sub hl [0, 1] rfl) hP hD hS hf
  have hq := lq2_i hf
  clear hf
  obtain ⟨B19, eB19, NB19, hf⟩ := hq
  have hB19 : ∀ (n : Nat) (z17 : Int) (w18 : (Int → Int)) (ls : Array Slot) (H : Heap) (locs : List Loc), lv_has ls 2 [(1, .int (Int32.ofInt z17)), (0, .ref a_p0)] → va_P D vwCl [(a_p0, .inr (12, [.ref a_p0_st, .ref a_p0_isKept, .int (Int32.ofInt i_p0_seats), .int (Int32.ofInt i_p0_stirs), .ref a_p0_brings, .ref a_p0_need, .ref a_p0_draft, .int (Int32.ofInt i_p0_dSeats), .int (Int32.ofInt i_p0_dStirs), .ref a_p0_dStir, .ref a_p0_dNeed, .int (Int32.ofInt i_p0_told), .int (Int32.ofInt i_p0_highest), .ref a_p0_tape, .int (Int32.ofInt i_p0_taped), .int (Int32.ofInt i_p0_pos), .int (Int32.ofInt i_p0_from), .int (Int32.ofInt i_p0_sort), .int (Int32.ofInt i_p0_value), .int (Int32.ofInt i_p0_fault), .int (Int32.ofInt i_p0_wrongAt), .ref a_p0_places, .ref a_p0_stirred, .ref a_p0_ways, .ref a_p0_waysThen, .ref a_p0_stays, .ref a_p0_fewest, .ref a_p0_bowls, .ref a_p0_has, .ref a_p0_goesOn, .ref a_p0_isThere, .ref a_p0_isThereThen, .ref a_p0_bestRow, .ref a_p0_lanes, .ref a_p0_sizes, .ref a_p0_cells, .int (Int32.ofInt i_p0_torn)])), (a_p0_draft, .inl (G 1, 38, .inl (zA w18))), (a_p0_dNeed, .inl (G 1, 7, .inl (zA v_p0_dNeed)))] H → va_D A [(a_p0, .inr (12, [.ref a_p0_st, .ref a_p0_isKept, .int (Int32.ofInt i_p0_seats), .int (Int32.ofInt i_p0_stirs), .ref a_p0_brings, .ref a_p0_need, .ref a_p0_draft, .int (Int32.ofInt i_p0_dSeats), .int (Int32.ofInt i_p0_dStirs), .ref a_p0_dStir, .ref a_p0_dNeed, .int (Int32.ofInt i_p0_told), .int (Int32.ofInt i_p0_highest), .ref a_p0_tape, .int (Int32.ofInt i_p0_taped), .int (Int32.ofInt i_p0_pos), .int (Int32.ofInt i_p0_from), .int (Int32.ofInt i_p0_sort), .int (Int32.ofInt i_p0_value), .int (Int32.ofInt i_p0_fault), .int (Int32.ofInt i_p0_wrongAt), .ref a_p0_places, .ref a_p0_stirred, .ref a_p0_ways, .ref a_p0_waysThen, .ref a_p0_stays, .ref a_p0_fewest, .ref a_p0_bowls, .ref a_p0_has, .ref a_p0_goesOn, .ref a_p0_isThere, .ref a_p0_isThereThen, .ref a_p0_bestRow, .ref a_p0_lanes, .ref a_p0_sizes, .ref a_p0_cells, .int (Int32.ofInt i_p0_torn)])), (a_p0_draft, .inl (G 1, 38, .inl (zA w18))), (a_p0_dNeed, .inl (G 1, 7, .inl (zA v_p0_dNeed)))] → va_S A s.heap H locs → lq2 B19 n z17 w18 = some (o_i_p0_dSeats, o_i_p0_dStirs, o_i_p0_told, o_i_p0_highest, o_v_p0_draft, o_v_p0_dNeed) → W p l e rm_X12_firstDraft s m ([.ref a_p0] : List Value).toArray below meth c H locs 0 0 Q (F0 m 2 ls []) := by
    clear hf hl hP hD hS
    intro n
    induction n with
    | zero =>
      intro z17 w18 ls H locs hl hP hD hS hf
      exact (lq2_0 hf).elim
    | succ n ih2 =>
      intro z17 w18 ls H locs hl hP hD hS hf
      replace hf := lq2_s eB19 hf
      unfold B_X12_firstDraft_2 at hf
      refine lv_iload_n hx hb dX12_firstDraft_2 rfl (lv_at hl 0 rfl) ?_
      refine lv_bipush (v := Int32.ofInt (38 : Int)) hx hb dX12_firstDraft_3 (by decide) ?_
      have hr19 := ck_c hf
      replace hf := ck_r hf
      refine lv_icmp_ge (tgt := 37) hx hb dX12_firstDraft_5 (by decide) (fun cc => ?_) (fun cc => ?_)
      ·
        replace hf := ite_t ((z_le (by decide) hr19).mp cc) hf
        clear cc
        exact hJ3 _ _ _ _ (lv_sub hl [1] rfl) hP hD hS hf
      ·
        replace hf := ite_f (fun h9 => cc ((z_le (by decide) hr19).mpr h9)) hf
        clear cc
        refine lv_aload_n hx hb dX12_firstDraft_8 rfl (lv_at hl 1 rfl) ?_
        refine va_get (D := D) (ci := 12) (v := .ref a_p0_draft) (C := RX12) (T := TX12) (N := 37) hx hb hts inX12_firstDraft_X12 hown hK hP 0 rfl rfl 6 (by decide) (hts _ mwX12_firstDraft_6) (fun _ h9 => h9) rfl dX12_firstDraft_9 ?_
        refine lv_iload_n hx hb dX12_firstDraft_12 rfl (lv_at hl 0 rfl) ?_
        refine lv_iload_n hx hb dX12_firstDraft_13 rfl (lv_at hl 0 rfl) ?_
        refine lv_bipush (v := Int32.ofInt (16 : Int)) hx hb dX12_firstDraft_14 (by decide) ?_
        refine lv_icmp_lt (tgt := 29) hx hb dX12_firstDraft_16 (by decide) (fun cc => ?_) (fun cc => ?_)
        ·
          replace hf := ite_t ((z_lt hr19 (by decide)).mp cc) hf
          clear cc
          refine lv_iconst (v := Int32.ofInt (0 : Int)) hx hb dX12_firstDraft_29 (by decide) ?_
          have hc := ck_c hf
          replace hf := ck_r hf
          refine zs_iast (wf := fun w21 => [(a_p0, .inr (12, [.ref a_p0_st, .ref a_p0_isKept, .int (Int32.ofInt i_p0_seats), .int (Int32.ofInt i_p0_stirs), .ref a_p0_brings, .ref a_p0_need, .ref a_p0_draft, .int (Int32.ofInt i_p0_dSeats), .int (Int32.ofInt i_p0_dStirs), .ref a_p0_dStir, .ref a_p0_dNeed, .int (Int32.ofInt i_p0_told), .int (Int32.ofInt i_p0_highest), .ref a_p0_tape, .int (Int32.ofInt i_p0_taped), .int (Int32.ofInt i_p0_pos), .int (Int32.ofInt i_p0_from), .int (Int32.ofInt i_p0_sort), .int (Int32.ofInt i_p0_value), .int (Int32.ofInt i_p0_fault), .int (Int32.ofInt i_p0_wrongAt), .ref a_p0_places, .ref a_p0_stirred, .ref a_p0_ways, .ref a_p0_waysThen, .ref a_p0_stays, .ref a_p0_fewest, .ref a_p0_bowls, .ref a_p0_has, .ref a_p0_goesOn, .ref a_p0_isThere, .ref a_p0_isThereThen, .ref a_p0_bestRow, .ref a_p0_lanes, .ref a_p0_sizes, .ref a_p0_cells, .int (Int32.ofInt i_p0_torn)])), (a_p0_draft, .inl (G 1, 38, .inl (zA w21))), (a_p0_dNeed, .inl (G 1, 7, .inl (zA v_p0_dNeed)))]) hx hb hK hP hD hS 1 1 rfl rfl hc dX12_firstDraft_30 (fun _ => rfl) (fun w21 ez H locs hP hD hS => ?_)
          replace hf := bnd_s hf ez
          clear ez hc
          obtain ⟨z22, ez⟩ : ∃ y : Int, y = (z17 + (1 : Int)) := ⟨_, rfl⟩
          replace hf := bnd_s hf ez
          refine lv_iinc (v := Int32.ofInt z22) (lv' := [(1, .int (Int32.ofInt z22)), (0, .ref a_p0)]) hx hb dX12_firstDraft_31 hl (k := 0) rfl (by rw [ez]; exact (Int32.ofInt_add _ _).symm) (by decide) rfl (fun ls hl => ?_)
          clear ez
          refine lv_goto (tgt := 2) hx hb dX12_firstDraft_34 (by decide) ?_
          exact ih2 _ _ _ _ _ (lv_sub hl [0, 1] rfl) hP hD hS hf
        ·
          replace hf := ite_f (fun h9 => cc ((z_lt hr19 (by decide)).mpr h9)) hf
          clear cc
          refine lv_iload_n hx hb dX12_firstDraft_19 rfl (lv_at hl 0 rfl) ?_
          refine lv_bipush (v := Int32.ofInt (23 : Int)) hx hb dX12_firstDraft_20 (by decide) ?_
          refine lv_icmp_ge (tgt := 29) hx hb dX12_firstDraft_22 (by decide) (fun cc => ?_) (fun cc => ?_)
          ·
            replace hf := ite_t ((z_le (by decide) hr19).mp cc) hf
            clear cc
            refine lv_iconst (v := Int32.ofInt (0 : Int)) hx hb dX12_firstDraft_29 (by decide) ?_
            have hc := ck_c hf
            replace hf := ck_r hf
            refine zs_iast (wf := fun w23 => [(a_p0, .inr (12, [.ref a_p0_st, .ref a_p0_isKept, .int (Int32.ofInt i_p0_seats), .int (Int32.ofInt i_p0_stirs), .ref a_p0_brings, .ref a_p0_need, .ref a_p0_draft, .int (Int32.ofInt i_p0_dSeats), .int (Int32.ofInt i_p0_dStirs), .ref a_p0_dStir, .ref a_p0_dNeed, .int (Int32.ofInt i_p0_told), .int (Int32.ofInt i_p0_highest), .ref a_p0_tape, .int (Int32.ofInt i_p0_taped), .int (Int32.ofInt i_p0_pos), .int (Int32.ofInt i_p0_from), .int (Int32.ofInt i_p0_sort), .int (Int32.ofInt i_p0_value), .int (Int32.ofInt i_p0_fault), .int (Int32.ofInt i_p0_wrongAt), .ref a_p0_places, .ref a_p0_stirred, .ref a_p0_ways, .ref a_p0_waysThen, .ref a_p0_stays, .ref a_p0_fewest, .ref a_p0_bowls, .ref a_p0_has, .ref a_p0_goesOn, .ref a_p0_isThere, .ref a_p0_isThereThen, .ref a_p0_bestRow, .ref a_p0_lanes, .ref a_p0_sizes, .ref a_p0_cells, .int (Int32.ofInt i_p0_torn)])), (a_p0_draft, .inl (G 1, 38, .inl (zA w23))), (a_p0_dNeed, .inl (G 1, 7, .inl (zA v_p0_dNeed)))]) hx hb hK hP hD hS 1 1 rfl rfl hc dX12_firstDraft_30 (fun _ => rfl) (fun w23 ez H locs hP hD hS => ?_)
            replace hf := bnd_s hf ez
            clear ez hc
            obtain ⟨z24, ez⟩ : ∃ y : Int, y = (z17 + (1 : Int)) := ⟨_, rfl⟩
            replace hf := bnd_s hf ez
            refine lv_iinc (v := Int32.ofInt z24) (lv' := [(1, .int (Int32.ofInt z24)), (0, .ref a_p0)]) hx hb dX12_firstDraft_31 hl (k := 0) rfl (by rw [ez]; exact (Int32.ofInt_add _ _).symm) (by decide) rfl (fun ls hl => ?_)
            clear ez
            refine lv_goto (tgt := 2) hx hb dX12_firstDraft_34 (by decide) ?_
            exact ih2 _ _ _ _ _ (lv_sub hl [0, 1] rfl) hP hD hS hf
          ·
            replace hf := ite_f (fun h9 => cc ((z_le (by decide) hr19).mpr h9)) hf
            clear cc
            refine lv_iconst (v := Int32.ofInt (1 : Int)) hx hb dX12_firstDraft_25 (by decide) ?_
            refine lv_goto (tgt := 30) hx hb dX12_firstDraft_26 (by decide) ?_
            have hc := ck_c hf
            replace hf := ck_r hf
            refine zs_iast (wf := fun w25 => [(a_p0, .inr (12, [.ref a_p0_st, .ref a_p0_isKept, .int (Int32.ofInt i_p0_seats), .int (Int32.ofInt i_p0_stirs), .ref a_p0_brings, .ref a_p0_need, .ref a_p0_draft, .int (Int32.ofInt i_p0_dSeats), .int (Int32.ofInt i_p0_dStirs), .ref a_p0_dStir, .ref a_p0_dNeed, .int (Int32.ofInt i_p0_told), .int (Int32.ofInt i_p0_highest), .ref a_p0_tape, .int (Int32.ofInt i_p0_taped), .int (Int32.ofInt i_p0_pos), .int (Int32.ofInt i_p0_from), .int (Int32.ofInt i_p0_sort), .int (Int32.ofInt i_p0_value), .int (Int32.ofInt i_p0_fault), .int (Int32.ofInt i_p0_wrongAt), .ref a_p0_places, .ref a_p0_stirred, .ref a_p0_ways, .ref a_p0_waysThen, .ref a_p0_stays, .ref a_p0_fewest, .ref a_p0_bowls, .ref a_p0_has, .ref a_p0_goesOn, .ref a_p0_isThere, .ref a_p0_isThereThen, .ref a_p0_bestRow, .ref a_p0_lanes, .ref a_p0_sizes, .ref a_p0_cells, .int (Int32.ofInt i_p0_torn)])), (a_p0_draft, .inl (G 1, 38, .inl (zA w25))), (a_p0_dNeed, .inl (G 1, 7, .inl (zA v_p0_dNeed)))]) hx hb hK hP hD hS 1 1 rfl rfl hc dX12_firstDraft_30 (fun _ => rfl) (fun w25 ez H locs hP hD hS => ?_)
            replace hf := bnd_s hf ez
            clear ez hc
            obtain ⟨z26, ez⟩ : ∃ y : Int, y = (z17 + (1 : Int)) := ⟨_, rfl⟩
            replace hf := bnd_s hf ez
            refine lv_iinc (v := Int32.ofInt z26) (lv' := [(1, .int (Int32.ofInt z26)), (0, .ref a_p0)]) hx hb dX12_firstDraft_31 hl (k := 0) rfl (by rw [ez]; exact (Int32.ofInt_add _ _).symm) (by decide) rfl (fun ls hl => ?_)
            clear ez
            refine lv_goto (tgt := 2) hx hb dX12_firstDraft_34 (by decide) ?_
            exact ih2 _ _ _ _ _ (lv_sub hl [0, 1] rfl) hP hD hS hf
  exact hB19 _ _ _ _ _ _ (lv_sub hl [0, 1] rfl) hP hD hS hf

noncomputable def f_X12_broughtTo (i_p0_dSeats : Int) (v_p0_dStir : (Int → Int)) (x1 : Int) (x2 : Int) : Option (Int) := (ck (z_ix (((3 : Int) * x1) + (1 : Int)) 15) (bnd (v_p0_dStir (((3 : Int) * x1) + (1 : Int))) (fun (z1 : Int) => (ck (z_ix (((3 : Int) * x1) + (2 : Int)) 15) (bnd (v_p0_dStir (((3 : Int) * x1) + (2 : Int))) (fun (z2 : Int) => (ck (z_ix ((3 : Int) * x1) 15) (ck (z_r32 (v_p0_dStir ((3 : Int) * x1))) (if (v_p0_dStir ((3 : Int) * x1)) = (0 : Int) then (ck (z_dv (x2 + z1) i_p0_dSeats) (some ((x2 + z1) % i_p0_dSeats))) else (if (v_p0_dStir ((3 : Int) * x1)) = (1 : Int) then (some ((i_p0_dSeats - (1 : Int)) - x2)) else (if (v_p0_dStir ((3 : Int) * x1)) = (2 : Int) then (ck (z_r32 x2) (ck (z_r32 z1) (if x2 = z1 then (some z2) else (ck (z_r32 z2) (if x2 = z2 then (some z1) else (some x2)))))) else (ck (z_r32 x2) (ck (z_r32 z1) (if x2 = z1 then (some (0 : Int)) else (if z1 ≤ x2 then (some x2) else (some (x2 + (1 : Int))))))))))))))))))
abbrev rm_X12_broughtTo : Room := { frames := 0, cells := 0, slots := 0, locals := 0 }
theorem inX12_broughtTo_X12 : ∀ w ∈ wsX120, w ∈ wsX12_broughtTo := by first | exact fun w h => List.mem_cons_of_mem _ (List.mem_append_right _ h) | decide +kernel
theorem mwX12_broughtTo_1 : Cond.fieldLink RX12 26 "LadleKingsModel" "dStir" "[I" ∈ wsX12_broughtTo := by first | exact List.mem_of_getElem? (i := 1) rfl | decide +kernel
theorem mwX12_broughtTo_2 : Cond.fieldLink RX12 87 "LadleKingsModel" "dSeats" "I" ∈ wsX12_broughtTo := by first | exact List.mem_of_getElem? (i := 2) rfl | decide +kernel
set_option maxHeartbeats 8000000 in
set_option maxRecDepth 100000 in
theorem c_X12_broughtTo (l : Launch) (D : va_G) (G : Nat → ClassId) (sz : Nat) (a_p0 : Nat) (a_p0_st : Nat) (a_p0_isKept : Nat) (a_p0_brings : Nat) (a_p0_need : Nat) (a_p0_draft : Nat) (a_p0_dStir : Nat) (a_p0_dNeed : Nat) (a_p0_tape : Nat) (a_p0_places : Nat) (a_p0_stirred : Nat) (a_p0_ways : Nat) (a_p0_waysThen : Nat) (a_p0_stays : Nat) (a_p0_fewest : Nat) (a_p0_bowls : Nat) (a_p0_has : Nat) (a_p0_goesOn : Nat) (a_p0_isThere : Nat) (a_p0_isThereThen : Nat) (a_p0_bestRow : Nat) (a_p0_lanes : Nat) (a_p0_sizes : Nat) (a_p0_cells : Nat) (i_p0_seats : Int) (i_p0_stirs : Int) (i_p0_dSeats : Int) (i_p0_dStirs : Int) (i_p0_told : Int) (i_p0_highest : Int) (i_p0_taped : Int) (i_p0_pos : Int) (i_p0_from : Int) (i_p0_sort : Int) (i_p0_value : Int) (i_p0_fault : Int) (i_p0_wrongAt : Int) (i_p0_torn : Int) (v_p0_dStir : (Int → Int)) (x1 : Int) (x2 : Int) (r : Int) (hf : f_X12_broughtTo i_p0_dSeats v_p0_dStir x1 x2 = some r) : Met l yX12_broughtTo wsX12_broughtTo rm_X12_broughtTo (pcG D G [.ref a_p0, .int (Int32.ofInt x1), .int (Int32.ofInt x2)] sz [(a_p0, .inr (12, [.ref a_p0_st, .ref a_p0_isKept, .int (Int32.ofInt i_p0_seats), .int (Int32.ofInt i_p0_stirs), .ref a_p0_brings, .ref a_p0_need, .ref a_p0_draft, .int (Int32.ofInt i_p0_dSeats), .int (Int32.ofInt i_p0_dStirs), .ref a_p0_dStir, .ref a_p0_dNeed, .int (Int32.ofInt i_p0_told), .int (Int32.ofInt i_p0_highest), .ref a_p0_tape, .int (Int32.ofInt i_p0_taped), .int (Int32.ofInt i_p0_pos), .int (Int32.ofInt i_p0_from), .int (Int32.ofInt i_p0_sort), .int (Int32.ofInt i_p0_value), .int (Int32.ofInt i_p0_fault), .int (Int32.ofInt i_p0_wrongAt), .ref a_p0_places, .ref a_p0_stirred, .ref a_p0_ways, .ref a_p0_waysThen, .ref a_p0_stays, .ref a_p0_fewest, .ref a_p0_bowls, .ref a_p0_has, .ref a_p0_goesOn, .ref a_p0_isThere, .ref a_p0_isThereThen, .ref a_p0_bestRow, .ref a_p0_lanes, .ref a_p0_sizes, .ref a_p0_cells, .int (Int32.ofInt i_p0_torn)])), (a_p0_dStir, .inl (G 1, 15, .inl (zA v_p0_dStir)))]) (qcI D G (Int32.ofInt r) [(a_p0, .inr (12, [.ref a_p0_st, .ref a_p0_isKept, .int (Int32.ofInt i_p0_seats), .int (Int32.ofInt i_p0_stirs), .ref a_p0_brings, .ref a_p0_need, .ref a_p0_draft, .int (Int32.ofInt i_p0_dSeats), .int (Int32.ofInt i_p0_dStirs), .ref a_p0_dStir, .ref a_p0_dNeed, .int (Int32.ofInt i_p0_told), .int (Int32.ofInt i_p0_highest), .ref a_p0_tape, .int (Int32.ofInt i_p0_taped), .int (Int32.ofInt i_p0_pos), .int (Int32.ofInt i_p0_from), .int (Int32.ofInt i_p0_sort), .int (Int32.ofInt i_p0_value), .int (Int32.ofInt i_p0_fault), .int (Int32.ofInt i_p0_wrongAt), .ref a_p0_places, .ref a_p0_stirred, .ref a_p0_ways, .ref a_p0_waysThen, .ref a_p0_stays, .ref a_p0_fewest, .ref a_p0_bowls, .ref a_p0_has, .ref a_p0_goesOn, .ref a_p0_isThere, .ref a_p0_isThereThen, .ref a_p0_bestRow, .ref a_p0_lanes, .ref a_p0_sizes, .ref a_p0_cells, .int (Int32.ofInt i_p0_torn)])), (a_p0_dStir, .inl (G 1, 15, .inl (zA v_p0_dStir)))] (va_A [(a_p0, .inr (12, [.ref a_p0_st, .ref a_p0_isKept, .int (Int32.ofInt i_p0_seats), .int (Int32.ofInt i_p0_stirs), .ref a_p0_brings, .ref a_p0_need, .ref a_p0_draft, .int (Int32.ofInt i_p0_dSeats), .int (Int32.ofInt i_p0_dStirs), .ref a_p0_dStir, .ref a_p0_dNeed, .int (Int32.ofInt i_p0_told), .int (Int32.ofInt i_p0_highest), .ref a_p0_tape, .int (Int32.ofInt i_p0_taped), .int (Int32.ofInt i_p0_pos), .int (Int32.ofInt i_p0_from), .int (Int32.ofInt i_p0_sort), .int (Int32.ofInt i_p0_value), .int (Int32.ofInt i_p0_fault), .int (Int32.ofInt i_p0_wrongAt), .ref a_p0_places, .ref a_p0_stirred, .ref a_p0_ways, .ref a_p0_waysThen, .ref a_p0_stays, .ref a_p0_fewest, .ref a_p0_bowls, .ref a_p0_has, .ref a_p0_goesOn, .ref a_p0_isThere, .ref a_p0_isThereThen, .ref a_p0_bestRow, .ref a_p0_lanes, .ref a_p0_sizes, .ref a_p0_cells, .int (Int32.ofInt i_p0_torn)])), (a_p0_dStir, .inl (G 1, 15, .inl (zA v_p0_dStir)))] sz)) 0 0 (va_A [(a_p0, .inr (12, [.ref a_p0_st, .ref a_p0_isKept, .int (Int32.ofInt i_p0_seats), .int (Int32.ofInt i_p0_stirs), .ref a_p0_brings, .ref a_p0_need, .ref a_p0_draft, .int (Int32.ofInt i_p0_dSeats), .int (Int32.ofInt i_p0_dStirs), .ref a_p0_dStir, .ref a_p0_dNeed, .int (Int32.ofInt i_p0_told), .int (Int32.ofInt i_p0_highest), .ref a_p0_tape, .int (Int32.ofInt i_p0_taped), .int (Int32.ofInt i_p0_pos), .int (Int32.ofInt i_p0_from), .int (Int32.ofInt i_p0_sort), .int (Int32.ofInt i_p0_value), .int (Int32.ofInt i_p0_fault), .int (Int32.ofInt i_p0_wrongAt), .ref a_p0_places, .ref a_p0_stirred, .ref a_p0_ways, .ref a_p0_waysThen, .ref a_p0_stays, .ref a_p0_fewest, .ref a_p0_bowls, .ref a_p0_has, .ref a_p0_goesOn, .ref a_p0_isThere, .ref a_p0_isThereThen, .ref a_p0_bestRow, .ref a_p0_lanes, .ref a_p0_sizes, .ref a_p0_cells, .int (Int32.ofInt i_p0_torn)])), (a_p0_dStir, .inl (G 1, 15, .inl (zA v_p0_dStir)))] sz) := by
  refine Met.ofW (cc := cX12_broughtTo) (maxL := 5) (ret := (some .int)) (by decide) rfl ?_
  intro p e s m args below meth c s₁ B hml hv
  obtain ⟨rfl, hsz, hP, hK, hD0⟩ := hv
  have hx := B.exec
  have hb := B.bytes
  have hr := B.returns
  have hts := atoms_spec (ws := wsX12_broughtTo) B.pre
  have hown : s.vm.findClass RX12 = some m.cls := findClass_of_methodNamed B.named
  have hlocks := B.notSynchronized
  subst hsz
  have hD := hD0.self (sz := s.heap.size)
  generalize hAe : va_A [(a_p0, .inr (12, [.ref a_p0_st, .ref a_p0_isKept, .int (Int32.ofInt i_p0_seats), .int (Int32.ofInt i_p0_stirs), .ref a_p0_brings, .ref a_p0_need, .ref a_p0_draft, .int (Int32.ofInt i_p0_dSeats), .int (Int32.ofInt i_p0_dStirs), .ref a_p0_dStir, .ref a_p0_dNeed, .int (Int32.ofInt i_p0_told), .int (Int32.ofInt i_p0_highest), .ref a_p0_tape, .int (Int32.ofInt i_p0_taped), .int (Int32.ofInt i_p0_pos), .int (Int32.ofInt i_p0_from), .int (Int32.ofInt i_p0_sort), .int (Int32.ofInt i_p0_value), .int (Int32.ofInt i_p0_fault), .int (Int32.ofInt i_p0_wrongAt), .ref a_p0_places, .ref a_p0_stirred, .ref a_p0_ways, .ref a_p0_waysThen, .ref a_p0_stays, .ref a_p0_fewest, .ref a_p0_bowls, .ref a_p0_has, .ref a_p0_goesOn, .ref a_p0_isThere, .ref a_p0_isThereThen, .ref a_p0_bestRow, .ref a_p0_lanes, .ref a_p0_sizes, .ref a_p0_cells, .int (Int32.ofInt i_p0_torn)])), (a_p0_dStir, .inl (G 1, 15, .inl (zA v_p0_dStir)))] s.heap.size = A at hD ⊢
  have hA : ∀ q : Nat, s.heap.size ≤ q → A q := fun q h => by rw [← hAe]; exact Or.inr h
  clear hAe hD0
  have hS : va_S A s.heap s.heap [] := va_S.rf
  have hl := lv_entry ([.ref a_p0, .int (Int32.ofInt x1), .int (Int32.ofInt x2)]) (n := 5) (Nat.le_of_ble_eq_true rfl)
  rw [lg_entry_eq]
  generalize (lg_sl ([.ref a_p0, .int (Int32.ofInt x1), .int (Int32.ofInt x2)]) ++ List.replicate (5 - (lg_sl ([.ref a_p0, .int (Int32.ofInt x1), .int (Int32.ofInt x2)])).length) Slot.unset).toArray = ls at hl ⊢
  have hl : lv_has ls 5 [(0, .ref a_p0), (1, .int (Int32.ofInt x1)), (2, .int (Int32.ofInt x2))] := hl
  refine W_nameQ (fun Q hQ => ?_)
  obtain ⟨H, hH⟩ : ∃ H, H = s.heap := ⟨_, rfl⟩
  replace hS : va_S A s.heap H [] := by rw [hH]; exact hS
  replace hP : va_P D vwCl [(a_p0, .inr (12, [.ref a_p0_st, .ref a_p0_isKept, .int (Int32.ofInt i_p0_seats), .int (Int32.ofInt i_p0_stirs), .ref a_p0_brings, .ref a_p0_need, .ref a_p0_draft, .int (Int32.ofInt i_p0_dSeats), .int (Int32.ofInt i_p0_dStirs), .ref a_p0_dStir, .ref a_p0_dNeed, .int (Int32.ofInt i_p0_told), .int (Int32.ofInt i_p0_highest), .ref a_p0_tape, .int (Int32.ofInt i_p0_taped), .int (Int32.ofInt i_p0_pos), .int (Int32.ofInt i_p0_from), .int (Int32.ofInt i_p0_sort), .int (Int32.ofInt i_p0_value), .int (Int32.ofInt i_p0_fault), .int (Int32.ofInt i_p0_wrongAt), .ref a_p0_places, .ref a_p0_stirred, .ref a_p0_ways, .ref a_p0_waysThen, .ref a_p0_stays, .ref a_p0_fewest, .ref a_p0_bowls, .ref a_p0_has, .ref a_p0_goesOn, .ref a_p0_isThere, .ref a_p0_isThereThen, .ref a_p0_bestRow, .ref a_p0_lanes, .ref a_p0_sizes, .ref a_p0_cells, .int (Int32.ofInt i_p0_torn)])), (a_p0_dStir, .inl (G 1, 15, .inl (zA v_p0_dStir)))] H := by rw [hH]; exact hP
  rw [← hH]
  clear hH
  unfold f_X12_broughtTo at hf
  refine lv_aload_n hx hb dX12_broughtTo_0 rfl (lv_at hl 0 rfl) ?_
  refine va_get (D := D) (ci := 12) (v := .ref a_p0_dStir) (C := RX12) (T := TX12) (N := 37) hx hb hts inX12_broughtTo_X12 hown hK hP 0 rfl rfl 9 (by decide) (hts _ mwX12_broughtTo_1) (fun _ h9 => h9) rfl dX12_broughtTo_1 ?_
  refine lv_iconst (v := Int32.ofInt (3 : Int)) hx hb dX12_broughtTo_4 (by decide) ?_
  refine lv_iload_n hx hb dX12_broughtTo_5 rfl (lv_at hl 1 rfl) ?_
  refine lv_imul hx hb dX12_broughtTo_6 (z_ci (Int32.ofInt_mul (3 : Int) x1) ?_)
  refine lv_iconst (v := Int32.ofInt (1 : Int)) hx hb dX12_broughtTo_7 (by decide) ?_
  refine lv_iadd hx hb dX12_broughtTo_8 (z_ci (Int32.ofInt_add ((3 : Int) * x1) (1 : Int)) ?_)
  have hc := ck_c hf
  replace hf := ck_r hf
  refine va_iald hx hb hK hP 1 1 rfl rfl (z_ix_in hc) dX12_broughtTo_9 (z_ci (z_ald v_p0_dStir hc) ?_)
  clear hc
  refine z_topi (fun z1 ez => ?_)
  replace hf := bnd_s hf ez
  clear ez
  refine lv_istore_n (lv' := [(3, .int (Int32.ofInt z1)), (0, .ref a_p0), (1, .int (Int32.ofInt x1)), (2, .int (Int32.ofInt x2))]) hx hb dX12_broughtTo_10 rfl hl (by decide) rfl (fun ls hl => ?_)
  refine lv_aload_n hx hb dX12_broughtTo_11 rfl (lv_at hl 1 rfl) ?_
  refine va_get (D := D) (ci := 12) (v := .ref a_p0_dStir) (C := RX12) (T := TX12) (N := 37) hx hb hts inX12_broughtTo_X12 hown hK hP 0 rfl rfl 9 (by decide) (hts _ mwX12_broughtTo_1) (fun _ h9 => h9) rfl dX12_broughtTo_12 ?_
  refine lv_iconst (v := Int32.ofInt (3 : Int)) hx hb dX12_broughtTo_15 (by decide) ?_
  refine lv_iload_n hx hb dX12_broughtTo_16 rfl (lv_at hl 2 rfl) ?_
  refine lv_imul hx hb dX12_broughtTo_17 (z_ci (Int32.ofInt_mul (3 : Int) x1) ?_)
  refine lv_iconst (v := Int32.ofInt (2 : Int)) hx hb dX12_broughtTo_18 (by decide) ?_
  refine lv_iadd hx hb dX12_broughtTo_19 (z_ci (Int32.ofInt_add ((3 : Int) * x1) (2 : Int)) ?_)
  have hc := ck_c hf
  replace hf := ck_r hf
  refine va_iald hx hb hK hP 1 1 rfl rfl (z_ix_in hc) dX12_broughtTo_20 (z_ci (z_ald v_p0_dStir hc) ?_)
  clear hc
  refine z_topi (fun z2 ez => ?_)
  replace hf := bnd_s hf ez
  clear ez
  refine lv_istore (lv' := [(4, .int (Int32.ofInt z2)), (3, .int (Int32.ofInt z1)), (0, .ref a_p0), (1, .int (Int32.ofInt x1)), (2, .int (Int32.ofInt x2))]) hx hb dX12_broughtTo_21 hl (by decide) rfl (fun ls hl => ?_)
  refine lv_aload_n hx hb dX12_broughtTo_23 rfl (lv_at hl 2 rfl) ?_
  refine va_get (D := D) (ci := 12) (v := .ref a_p0_dStir) (C := RX12) (T := TX12) (N := 37) hx hb hts inX12_broughtTo_X12 hown hK hP 0 rfl rfl 9 (by decide) (hts _ mwX12_broughtTo_1) (fun _ h9 => h9) rfl dX12_broughtTo_24 ?_
  refine lv_iconst (v := Int32.ofInt (3 : Int)) hx hb dX12_broughtTo_27 (by decide) ?_
  refine lv_iload_n hx hb dX12_broughtTo_28 rfl (lv_at hl 3 rfl) ?_
  refine lv_imul hx hb dX12_broughtTo_29 (z_ci (Int32.ofInt_mul (3 : Int) x1) ?_)
  have hc := ck_c hf
  replace hf := ck_r hf
  refine va_iald hx hb hK hP 1 1 rfl rfl (z_ix_in hc) dX12_broughtTo_30 (z_ci (z_ald v_p0_dStir hc) ?_)
  clear hc
  have hr2 := ck_c hf
  replace hf := ck_r hf
  rcases Decidable.em ((v_p0_dStir ((3 : Int) * x1)) = (0 : Int)) with hk4 | hk4
  ·
    replace hf := ite_t hk4 hf
    refine lv_tableIn (tgt := 56) hx hb dX12_broughtTo_31 (by rw [hk4]; decide) (by rw [hk4]; decide) (by rw [hk4]; rfl) (by decide) ?_
    clear hk4
    refine lv_iload_n hx hb dX12_broughtTo_56 rfl (lv_at hl 4 rfl) ?_
    refine lv_iload_n hx hb dX12_broughtTo_57 rfl (lv_at hl 1 rfl) ?_
    refine lv_iadd hx hb dX12_broughtTo_58 (z_ci (Int32.ofInt_add x2 z1) ?_)
    refine lv_aload_n hx hb dX12_broughtTo_59 rfl (lv_at hl 2 rfl) ?_
    refine va_get (D := D) (ci := 12) (v := .int (Int32.ofInt i_p0_dSeats)) (C := RX12) (T := TX12) (N := 37) hx hb hts inX12_broughtTo_X12 hown hK hP 0 rfl rfl 7 (by decide) (hts _ mwX12_broughtTo_2) (fun _ h9 => h9) rfl dX12_broughtTo_60 ?_
    have hc := ck_c hf
    replace hf := ck_r hf
    refine lv_irem hx hb dX12_broughtTo_63 (z_nz hc) (z_ci (z_rem hc) ?_)
    clear hc
    obtain rfl := ou1 hf
    rw [hQ]
    exact W.iret hx hb hr (fun t ht hW => ⟨⟨_, (), rfl, rfl, by rw [ht]; exact hP, va_K.moved hW.alike hK, hD⟩, hS.F ht⟩) hS.2.2 dX12_broughtTo_64
  replace hf := ite_f hk4 hf
  rcases Decidable.em ((v_p0_dStir ((3 : Int) * x1)) = (1 : Int)) with hk5 | hk5
  ·
    replace hf := ite_t hk5 hf
    refine lv_tableIn (tgt := 65) hx hb dX12_broughtTo_31 (by rw [hk5]; decide) (by rw [hk5]; decide) (by rw [hk5]; rfl) (by decide) ?_
    clear hk5 hk4
    refine lv_aload_n hx hb dX12_broughtTo_65 rfl (lv_at hl 2 rfl) ?_
    refine va_get (D := D) (ci := 12) (v := .int (Int32.ofInt i_p0_dSeats)) (C := RX12) (T := TX12) (N := 37) hx hb hts inX12_broughtTo_X12 hown hK hP 0 rfl rfl 7 (by decide) (hts _ mwX12_broughtTo_2) (fun _ h9 => h9) rfl dX12_broughtTo_66 ?_
    refine lv_iconst (v := Int32.ofInt (1 : Int)) hx hb dX12_broughtTo_69 (by decide) ?_
    refine lv_isub hx hb dX12_broughtTo_70 (z_ci (Int32.ofInt_sub i_p0_dSeats (1 : Int)) ?_)
    refine lv_iload_n hx hb dX12_broughtTo_71 rfl (lv_at hl 4 rfl) ?_
    refine lv_isub hx hb dX12_broughtTo_72 (z_ci (Int32.ofInt_sub (i_p0_dSeats - (1 : Int)) x2) ?_)
    obtain rfl := ou1 hf
    rw [hQ]
    exact W.iret hx hb hr (fun t ht hW => ⟨⟨_, (), rfl, rfl, by rw [ht]; exact hP, va_K.moved hW.alike hK, hD⟩, hS.F ht⟩) hS.2.2 dX12_broughtTo_73
  replace hf := ite_f hk5 hf
  rcases Decidable.em ((v_p0_dStir ((3 : Int) * x1)) = (2 : Int)) with hk6 | hk6
  ·
    replace hf := ite_t hk6 hf
    refine lv_tableIn (tgt := 74) hx hb dX12_broughtTo_31 (by rw [hk6]; decide) (by rw [hk6]; decide) (by rw [hk6]; rfl) (by decide) ?_
    clear hk6 hk4 hk5
    refine lv_iload_n hx hb dX12_broughtTo_74 rfl (lv_at hl 4 rfl) ?_
    refine lv_iload_n hx hb dX12_broughtTo_75 rfl (lv_at hl 1 rfl) ?_
    have hr6 := ck_c hf
    replace hf := ck_r hf
    have hr7 := ck_c hf
    replace hf := ck_r hf
    refine lv_icmp_ne (tgt := 84) hx hb dX12_broughtTo_76 (by decide) (fun cc => ?_) (fun cc => ?_)
    ·
      replace hf := ite_f (fun h9 => cc ((z_eq hr6 hr7).mpr h9)) hf
      clear cc
      refine lv_iload_n hx hb dX12_broughtTo_84 rfl (lv_at hl 4 rfl) ?_
      refine lv_iload hx hb dX12_broughtTo_85 (lv_at hl 0 rfl) ?_
      have hr8 := ck_c hf
      replace hf := ck_r hf
      refine lv_icmp_ne (tgt := 94) hx hb dX12_broughtTo_87 (by decide) (fun cc => ?_) (fun cc => ?_)
      ·
        replace hf := ite_f (fun h9 => cc ((z_eq hr6 hr8).mpr h9)) hf
        clear cc
        refine lv_iload_n hx hb dX12_broughtTo_94 rfl (lv_at hl 4 rfl) ?_
        obtain rfl := ou1 hf
        rw [hQ]
        exact W.iret hx hb hr (fun t ht hW => ⟨⟨_, (), rfl, rfl, by rw [ht]; exact hP, va_K.moved hW.alike hK, hD⟩, hS.F ht⟩) hS.2.2 dX12_broughtTo_95
      ·
        replace hf := ite_t ((z_eq hr6 hr8).mp cc) hf
        clear cc
        refine lv_iload_n hx hb dX12_broughtTo_90 rfl (lv_at hl 1 rfl) ?_
        refine lv_goto (tgt := 95) hx hb dX12_broughtTo_91 (by decide) ?_
        obtain rfl := ou1 hf
        rw [hQ]
        exact W.iret hx hb hr (fun t ht hW => ⟨⟨_, (), rfl, rfl, by rw [ht]; exact hP, va_K.moved hW.alike hK, hD⟩, hS.F ht⟩) hS.2.2 dX12_broughtTo_95
    ·
      replace hf := ite_t ((z_eq hr6 hr7).mp cc) hf
      clear cc
      refine lv_iload hx hb dX12_broughtTo_79 (lv_at hl 0 rfl) ?_
      refine lv_goto (tgt := 95) hx hb dX12_broughtTo_81 (by decide) ?_
      obtain rfl := ou1 hf
      rw [hQ]
      exact W.iret hx hb hr (fun t ht hW => ⟨⟨_, (), rfl, rfl, by rw [ht]; exact hP, va_K.moved hW.alike hK, hD⟩, hS.F ht⟩) hS.2.2 dX12_broughtTo_95
  replace hf := ite_f hk6 hf
  refine lv_tableOut (tgt := 96) hx hb dX12_broughtTo_31 (by rw [z_ti hr2]; omega) (by decide) ?_
  clear hk4 hk5 hk6
  refine lv_iload_n hx hb dX12_broughtTo_96 rfl (lv_at hl 4 rfl) ?_
  refine lv_iload_n hx hb dX12_broughtTo_97 rfl (lv_at hl 1 rfl) ?_
  have hr9 := ck_c hf
  replace hf := ck_r hf
  have hr10 := ck_c hf
  replace hf := ck_r hf
  refine lv_icmp_ne (tgt := 105) hx hb dX12_broughtTo_98 (by decide) (fun cc => ?_) (fun cc => ?_)
  ·
    replace hf := ite_f (fun h9 => cc ((z_eq hr9 hr10).mpr h9)) hf
    clear cc
    refine lv_iload_n hx hb dX12_broughtTo_105 rfl (lv_at hl 4 rfl) ?_
    refine lv_iload_n hx hb dX12_broughtTo_106 rfl (lv_at hl 1 rfl) ?_
    refine lv_icmp_ge (tgt := 116) hx hb dX12_broughtTo_107 (by decide) (fun cc => ?_) (fun cc => ?_)
    ·
      replace hf := ite_t ((z_le hr10 hr9).mp cc) hf
      clear cc
      refine lv_iload_n hx hb dX12_broughtTo_116 rfl (lv_at hl 4 rfl) ?_
      obtain rfl := ou1 hf
      rw [hQ]
      exact W.iret hx hb hr (fun t ht hW => ⟨⟨_, (), rfl, rfl, by rw [ht]; exact hP, va_K.moved hW.alike hK, hD⟩, hS.F ht⟩) hS.2.2 dX12_broughtTo_117
    ·
      replace hf := ite_f (fun h9 => cc ((z_le hr10 hr9).mpr h9)) hf
      clear cc
      refine lv_iload_n hx hb dX12_broughtTo_110 rfl (lv_at hl 4 rfl) ?_
      refine lv_iconst (v := Int32.ofInt (1 : Int)) hx hb dX12_broughtTo_111 (by decide) ?_
      refine lv_iadd hx hb dX12_broughtTo_112 (z_ci (Int32.ofInt_add x2 (1 : Int)) ?_)
      refine lv_goto (tgt := 117) hx hb dX12_broughtTo_113 (by decide) ?_
      obtain rfl := ou1 hf
      rw [hQ]
      exact W.iret hx hb hr (fun t ht hW => ⟨⟨_, (), rfl, rfl, by rw [ht]; exact hP, va_K.moved hW.alike hK, hD⟩, hS.F ht⟩) hS.2.2 dX12_broughtTo_117
  ·
    replace hf := ite_t ((z_eq hr9 hr10).mp cc) hf
    clear cc
    refine lv_iconst (v := Int32.ofInt (0 : Int)) hx hb dX12_broughtTo_101 (by decide) ?_
    refine lv_goto (tgt := 117) hx hb dX12_broughtTo_102 (by decide) ?_
    obtain rfl := ou1 hf
    rw [hQ]
    exact W.iret hx hb hr (fun t ht hW => ⟨⟨_, (), rfl, rfl, by rw [ht]; exact hP, va_K.moved hW.alike hK, hD⟩, hS.F ht⟩) hS.2.2 dX12_broughtTo_117

noncomputable def B_X12_keepDraft_80 (z4 : Int) (z14 : Int) (again70 : Int → (Int → Int) → Option (Int × Int × (Int → Int) × (Int → Int) × (Int → Int) × (Int → Int))) (i_p0_dSeats : Int) (v_p0_dStir : (Int → Int)) (again80 : Int → (Int → Int) → Option (Int × Int × (Int → Int) × (Int → Int) × (Int → Int) × (Int → Int))) (z20 : Int) (w21 : (Int → Int)) : Option (Int × Int × (Int → Int) × (Int → Int) × (Int → Int) × (Int → Int)) := (ck (z_r32 z20) (ck (z_r32 z4) (if z4 ≤ z20 then (bnd (z14 + (1 : Int)) (fun (z25 : Int) => (again70 z25 w21))) else (bd1 (f_X12_broughtTo i_p0_dSeats v_p0_dStir z14 z20) (fun (z26 : Int) => (ck (z_ix (((7 : Int) * z14) + z20) 35) (bnd (z_up w21 (((7 : Int) * z14) + z20) z26) (fun (w27 : (Int → Int)) => (bnd (z20 + (1 : Int)) (fun (z28 : Int) => (again80 z28 w27)))))))))))
noncomputable def B_X12_keepDraft_70 (z5 : Int) (J11 : (Int → Int) → Option (Int × Int × (Int → Int) × (Int → Int) × (Int → Int) × (Int → Int))) (z4 : Int) (i_p0_dSeats : Int) (v_p0_dStir : (Int → Int)) (again70 : Int → (Int → Int) → Option (Int × Int × (Int → Int) × (Int → Int) × (Int → Int) × (Int → Int))) (z14 : Int) (w15 : (Int → Int)) : Option (Int × Int × (Int → Int) × (Int → Int) × (Int → Int) × (Int → Int)) := (ck (z_r32 z14) (ck (z_r32 z5) (if z5 ≤ z14 then (J11 w15) else (bnd (0 : Int) (fun (z19 : Int) => (lq2 (B_X12_keepDraft_80 z4 z14 again70 i_p0_dSeats v_p0_dStir) 1000 z19 w15))))))
noncomputable def B_X12_keepDraft_44 (J8 : (Int → Int) → Option (Int × Int × (Int → Int) × (Int → Int) × (Int → Int) × (Int → Int))) (v_p0_dNeed : (Int → Int)) (again44 : Int → (Int → Int) → Option (Int × Int × (Int → Int) × (Int → Int) × (Int → Int) × (Int → Int))) (z29 : Int) (w30 : (Int → Int)) : Option (Int × Int × (Int → Int) × (Int → Int) × (Int → Int) × (Int → Int)) := (ck (z_r32 z29) (if (7 : Int) ≤ z29 then (J8 w30) else (ck (z_ix z29 7) (ck (z_ix z29 7) (bnd (z_up w30 z29 (v_p0_dNeed z29)) (fun (w33 : (Int → Int)) => (bnd (z29 + (1 : Int)) (fun (z34 : Int) => (again44 z34 w33)))))))))
noncomputable def B_X12_keepDraft_2 (J3 : (Int → Int) → Option (Int × Int × (Int → Int) × (Int → Int) × (Int → Int) × (Int → Int))) (v_p0_draft : (Int → Int)) (again2 : Int → (Int → Int) → Option (Int × Int × (Int → Int) × (Int → Int) × (Int → Int) × (Int → Int))) (z35 : Int) (w36 : (Int → Int)) : Option (Int × Int × (Int → Int) × (Int → Int) × (Int → Int) × (Int → Int)) := (ck (z_r32 z35) (if (38 : Int) ≤ z35 then (J3 w36) else (ck (z_ix z35 38) (ck (z_ix z35 152) (bnd (z_up w36 z35 (v_p0_draft z35)) (fun (w39 : (Int → Int)) => (bnd (z35 + (1 : Int)) (fun (z40 : Int) => (again2 z40 w39)))))))))
noncomputable def f_X12_keepDraft (i_p0_dSeats : Int) (i_p0_dStirs : Int) (v_p0_st : (Int → Int)) (v_p0_isKept : (Int → Int)) (v_p0_brings : (Int → Int)) (v_p0_need : (Int → Int)) (v_p0_draft : (Int → Int)) (v_p0_dStir : (Int → Int)) (v_p0_dNeed : (Int → Int)) : Option (Int × Int × (Int → Int) × (Int → Int) × (Int → Int) × (Int → Int)) := (bnd (0 : Int) (fun (z1 : Int) => (jn (fun (w2 : (Int → Int)) => (bnd i_p0_dSeats (fun (z4 : Int) => (bnd i_p0_dStirs (fun (z5 : Int) => (bnd (0 : Int) (fun (z6 : Int) => (jn (fun (w7 : (Int → Int)) => (bnd (0 : Int) (fun (z9 : Int) => (jn (fun (w10 : (Int → Int)) => (ck (z_ix (0 : Int) 2) (ck (z_bB (0 : Int)) (bnd (z_up v_p0_isKept (0 : Int) (0 : Int)) (fun (w12 : (Int → Int)) => (ck (z_ix (1 : Int) 2) (ck (z_bB (0 : Int)) (bnd (z_up w12 (1 : Int) (0 : Int)) (fun (w13 : (Int → Int)) => (some (z4, z5, w2, w13, w10, w7))))))))))) (fun (J11 : (Int → Int) → Option (Int × Int × (Int → Int) × (Int → Int) × (Int → Int) × (Int → Int))) => (lq2 (B_X12_keepDraft_70 z5 J11 z4 i_p0_dSeats v_p0_dStir) 1000 z9 v_p0_brings)))))) (fun (J8 : (Int → Int) → Option (Int × Int × (Int → Int) × (Int → Int) × (Int → Int) × (Int → Int))) => (lq2 (B_X12_keepDraft_44 J8 v_p0_dNeed) 1000 z6 v_p0_need)))))))))) (fun (J3 : (Int → Int) → Option (Int × Int × (Int → Int) × (Int → Int) × (Int → Int) × (Int → Int))) => (lq2 (B_X12_keepDraft_2 J3 v_p0_draft) 1000 z1 v_p0_st)))))
abbrev rm_X12_keepDraft : Room := { frames := 1, cells := 0, slots := 0, locals := 24 }
theorem inX12_keepDraft_X12 : ∀ w ∈ wsX120, w ∈ wsX12_keepDraft := by first | exact fun w h => List.mem_cons_of_mem _ (List.mem_append_right _ h) | decide +kernel
theorem mwX12_keepDraft_1 : Cond.fieldLink RX12 87 "LadleKingsModel" "dSeats" "I" ∈ wsX12_keepDraft := by first | exact List.mem_of_getElem? (i := 3) rfl | decide +kernel
theorem mwX12_keepDraft_2 : Cond.fieldLink RX12 100 "LadleKingsModel" "seats" "I" ∈ wsX12_keepDraft := by first | exact List.mem_of_getElem? (i := 4) rfl | decide +kernel
theorem mwX12_keepDraft_3 : Cond.fieldLink RX12 91 "LadleKingsModel" "dStirs" "I" ∈ wsX12_keepDraft := by first | exact List.mem_of_getElem? (i := 5) rfl | decide +kernel
theorem mwX12_keepDraft_4 : Cond.fieldLink RX12 103 "LadleKingsModel" "stirs" "I" ∈ wsX12_keepDraft := by first | exact List.mem_of_getElem? (i := 6) rfl | decide +kernel
theorem mwX12_keepDraft_5 : Cond.fieldLink RX12 13 "LadleKingsModel" "isKept" "[Z" ∈ wsX12_keepDraft := by first | exact List.mem_of_getElem? (i := 10) rfl | decide +kernel
theorem mwX12_keepDraft_6 : Cond.fieldLink RX12 17 "LadleKingsModel" "brings" "[I" ∈ wsX12_keepDraft := by first | exact List.mem_of_getElem? (i := 9) rfl | decide +kernel
theorem hdV_yX12_broughtTo_RX12 : yX12_broughtTo.cls = RX12 ∧ yX12_broughtTo.cls ≠ "java/lang/invoke/MethodHandle" ∧ yX12_broughtTo.cls ≠ "java/lang/invoke/VarHandle" ∧ (parseMethodDescriptor yX12_broughtTo.desc).map (fun d => d.parameters.length) = some 2 := by decide +kernel
theorem mwX12_keepDraft_8 : Cond.fieldLink RX12 20 "LadleKingsModel" "need" "[I" ∈ wsX12_keepDraft := by first | exact List.mem_of_getElem? (i := 7) rfl | decide +kernel
theorem mwX12_keepDraft_9 : Cond.fieldLink RX12 29 "LadleKingsModel" "dNeed" "[I" ∈ wsX12_keepDraft := by first | exact List.mem_of_getElem? (i := 8) rfl | decide +kernel
theorem mwX12_keepDraft_10 : Cond.fieldLink RX12 7 "LadleKingsModel" "st" "[I" ∈ wsX12_keepDraft := by first | exact List.mem_of_getElem? (i := 1) rfl | decide +kernel
theorem mwX12_keepDraft_11 : Cond.fieldLink RX12 23 "LadleKingsModel" "draft" "[I" ∈ wsX12_keepDraft := by first | exact List.mem_of_getElem? (i := 2) rfl | decide +kernel
set_option maxHeartbeats 8000000 in
set_option maxRecDepth 100000 in
theorem c_X12_keepDraft (l : Launch) (D : va_G) (G : Nat → ClassId) (sz : Nat) (a_p0 : Nat) (a_p0_st : Nat) (a_p0_isKept : Nat) (a_p0_brings : Nat) (a_p0_need : Nat) (a_p0_draft : Nat) (a_p0_dStir : Nat) (a_p0_dNeed : Nat) (a_p0_tape : Nat) (a_p0_places : Nat) (a_p0_stirred : Nat) (a_p0_ways : Nat) (a_p0_waysThen : Nat) (a_p0_stays : Nat) (a_p0_fewest : Nat) (a_p0_bowls : Nat) (a_p0_has : Nat) (a_p0_goesOn : Nat) (a_p0_isThere : Nat) (a_p0_isThereThen : Nat) (a_p0_bestRow : Nat) (a_p0_lanes : Nat) (a_p0_sizes : Nat) (a_p0_cells : Nat) (i_p0_seats : Int) (i_p0_stirs : Int) (i_p0_dSeats : Int) (i_p0_dStirs : Int) (i_p0_told : Int) (i_p0_highest : Int) (i_p0_taped : Int) (i_p0_pos : Int) (i_p0_from : Int) (i_p0_sort : Int) (i_p0_value : Int) (i_p0_fault : Int) (i_p0_wrongAt : Int) (i_p0_torn : Int) (v_p0_st : (Int → Int)) (v_p0_isKept : (Int → Int)) (v_p0_brings : (Int → Int)) (v_p0_need : (Int → Int)) (v_p0_draft : (Int → Int)) (v_p0_dStir : (Int → Int)) (v_p0_dNeed : (Int → Int)) (o_i_p0_seats : Int) (o_i_p0_stirs : Int) (o_v_p0_st : (Int → Int)) (o_v_p0_isKept : (Int → Int)) (o_v_p0_brings : (Int → Int)) (o_v_p0_need : (Int → Int)) (hf : f_X12_keepDraft i_p0_dSeats i_p0_dStirs v_p0_st v_p0_isKept v_p0_brings v_p0_need v_p0_draft v_p0_dStir v_p0_dNeed = some (o_i_p0_seats, o_i_p0_stirs, o_v_p0_st, o_v_p0_isKept, o_v_p0_brings, o_v_p0_need)) : Met l yX12_keepDraft wsX12_keepDraft rm_X12_keepDraft (pcG D G [.ref a_p0] sz [(a_p0, .inr (12, [.ref a_p0_st, .ref a_p0_isKept, .int (Int32.ofInt i_p0_seats), .int (Int32.ofInt i_p0_stirs), .ref a_p0_brings, .ref a_p0_need, .ref a_p0_draft, .int (Int32.ofInt i_p0_dSeats), .int (Int32.ofInt i_p0_dStirs), .ref a_p0_dStir, .ref a_p0_dNeed, .int (Int32.ofInt i_p0_told), .int (Int32.ofInt i_p0_highest), .ref a_p0_tape, .int (Int32.ofInt i_p0_taped), .int (Int32.ofInt i_p0_pos), .int (Int32.ofInt i_p0_from), .int (Int32.ofInt i_p0_sort), .int (Int32.ofInt i_p0_value), .int (Int32.ofInt i_p0_fault), .int (Int32.ofInt i_p0_wrongAt), .ref a_p0_places, .ref a_p0_stirred, .ref a_p0_ways, .ref a_p0_waysThen, .ref a_p0_stays, .ref a_p0_fewest, .ref a_p0_bowls, .ref a_p0_has, .ref a_p0_goesOn, .ref a_p0_isThere, .ref a_p0_isThereThen, .ref a_p0_bestRow, .ref a_p0_lanes, .ref a_p0_sizes, .ref a_p0_cells, .int (Int32.ofInt i_p0_torn)])), (a_p0_st, .inl (G 1, 152, .inl (zA v_p0_st))), (a_p0_isKept, .inl (G 3, 2, .inl (zA v_p0_isKept))), (a_p0_brings, .inl (G 1, 35, .inl (zA v_p0_brings))), (a_p0_need, .inl (G 1, 7, .inl (zA v_p0_need))), (a_p0_draft, .inl (G 1, 38, .inl (zA v_p0_draft))), (a_p0_dStir, .inl (G 1, 15, .inl (zA v_p0_dStir))), (a_p0_dNeed, .inl (G 1, 7, .inl (zA v_p0_dNeed)))]) (qcV D G [(a_p0, .inr (12, [.ref a_p0_st, .ref a_p0_isKept, .int (Int32.ofInt o_i_p0_seats), .int (Int32.ofInt o_i_p0_stirs), .ref a_p0_brings, .ref a_p0_need, .ref a_p0_draft, .int (Int32.ofInt i_p0_dSeats), .int (Int32.ofInt i_p0_dStirs), .ref a_p0_dStir, .ref a_p0_dNeed, .int (Int32.ofInt i_p0_told), .int (Int32.ofInt i_p0_highest), .ref a_p0_tape, .int (Int32.ofInt i_p0_taped), .int (Int32.ofInt i_p0_pos), .int (Int32.ofInt i_p0_from), .int (Int32.ofInt i_p0_sort), .int (Int32.ofInt i_p0_value), .int (Int32.ofInt i_p0_fault), .int (Int32.ofInt i_p0_wrongAt), .ref a_p0_places, .ref a_p0_stirred, .ref a_p0_ways, .ref a_p0_waysThen, .ref a_p0_stays, .ref a_p0_fewest, .ref a_p0_bowls, .ref a_p0_has, .ref a_p0_goesOn, .ref a_p0_isThere, .ref a_p0_isThereThen, .ref a_p0_bestRow, .ref a_p0_lanes, .ref a_p0_sizes, .ref a_p0_cells, .int (Int32.ofInt i_p0_torn)])), (a_p0_st, .inl (G 1, 152, .inl (zA o_v_p0_st))), (a_p0_isKept, .inl (G 3, 2, .inl (zA o_v_p0_isKept))), (a_p0_brings, .inl (G 1, 35, .inl (zA o_v_p0_brings))), (a_p0_need, .inl (G 1, 7, .inl (zA o_v_p0_need))), (a_p0_draft, .inl (G 1, 38, .inl (zA v_p0_draft))), (a_p0_dStir, .inl (G 1, 15, .inl (zA v_p0_dStir))), (a_p0_dNeed, .inl (G 1, 7, .inl (zA v_p0_dNeed)))] (va_A [(a_p0, .inr (12, [.ref a_p0_st, .ref a_p0_isKept, .int (Int32.ofInt i_p0_seats), .int (Int32.ofInt i_p0_stirs), .ref a_p0_brings, .ref a_p0_need, .ref a_p0_draft, .int (Int32.ofInt i_p0_dSeats), .int (Int32.ofInt i_p0_dStirs), .ref a_p0_dStir, .ref a_p0_dNeed, .int (Int32.ofInt i_p0_told), .int (Int32.ofInt i_p0_highest), .ref a_p0_tape, .int (Int32.ofInt i_p0_taped), .int (Int32.ofInt i_p0_pos), .int (Int32.ofInt i_p0_from), .int (Int32.ofInt i_p0_sort), .int (Int32.ofInt i_p0_value), .int (Int32.ofInt i_p0_fault), .int (Int32.ofInt i_p0_wrongAt), .ref a_p0_places, .ref a_p0_stirred, .ref a_p0_ways, .ref a_p0_waysThen, .ref a_p0_stays, .ref a_p0_fewest, .ref a_p0_bowls, .ref a_p0_has, .ref a_p0_goesOn, .ref a_p0_isThere, .ref a_p0_isThereThen, .ref a_p0_bestRow, .ref a_p0_lanes, .ref a_p0_sizes, .ref a_p0_cells, .int (Int32.ofInt i_p0_torn)])), (a_p0_st, .inl (G 1, 152, .inl (zA v_p0_st))), (a_p0_isKept, .inl (G 3, 2, .inl (zA v_p0_isKept))), (a_p0_brings, .inl (G 1, 35, .inl (zA v_p0_brings))), (a_p0_need, .inl (G 1, 7, .inl (zA v_p0_need))), (a_p0_draft, .inl (G 1, 38, .inl (zA v_p0_draft))), (a_p0_dStir, .inl (G 1, 15, .inl (zA v_p0_dStir))), (a_p0_dNeed, .inl (G 1, 7, .inl (zA v_p0_dNeed)))] sz)) 0 0 (va_A [(a_p0, .inr (12, [.ref a_p0_st, .ref a_p0_isKept, .int (Int32.ofInt i_p0_seats), .int (Int32.ofInt i_p0_stirs), .ref a_p0_brings, .ref a_p0_need, .ref a_p0_draft, .int (Int32.ofInt i_p0_dSeats), .int (Int32.ofInt i_p0_dStirs), .ref a_p0_dStir, .ref a_p0_dNeed, .int (Int32.ofInt i_p0_told), .int (Int32.ofInt i_p0_highest), .ref a_p0_tape, .int (Int32.ofInt i_p0_taped), .int (Int32.ofInt i_p0_pos), .int (Int32.ofInt i_p0_from), .int (Int32.ofInt i_p0_sort), .int (Int32.ofInt i_p0_value), .int (Int32.ofInt i_p0_fault), .int (Int32.ofInt i_p0_wrongAt), .ref a_p0_places, .ref a_p0_stirred, .ref a_p0_ways, .ref a_p0_waysThen, .ref a_p0_stays, .ref a_p0_fewest, .ref a_p0_bowls, .ref a_p0_has, .ref a_p0_goesOn, .ref a_p0_isThere, .ref a_p0_isThereThen, .ref a_p0_bestRow, .ref a_p0_lanes, .ref a_p0_sizes, .ref a_p0_cells, .int (Int32.ofInt i_p0_torn)])), (a_p0_st, .inl (G 1, 152, .inl (zA v_p0_st))), (a_p0_isKept, .inl (G 3, 2, .inl (zA v_p0_isKept))), (a_p0_brings, .inl (G 1, 35, .inl (zA v_p0_brings))), (a_p0_need, .inl (G 1, 7, .inl (zA v_p0_need))), (a_p0_draft, .inl (G 1, 38, .inl (zA v_p0_draft))), (a_p0_dStir, .inl (G 1, 15, .inl (zA v_p0_dStir))), (a_p0_dNeed, .inl (G 1, 7, .inl (zA v_p0_dNeed)))] sz) := by
  refine Met.ofW (cc := cX12_keepDraft) (maxL := 3) (ret := none) (by decide) rfl ?_
  intro p e s m args below meth c s₁ B hml hv
  obtain ⟨rfl, hsz, hP, hK, hD0⟩ := hv
  have hx := B.exec
  have hb := B.bytes
  have hr := B.returns
  have hts := atoms_spec (ws := wsX12_keepDraft) B.pre
  have hown : s.vm.findClass RX12 = some m.cls := findClass_of_methodNamed B.named
  have hlocks := B.notSynchronized
  subst hsz
  have hD := hD0.self (sz := s.heap.size)
  generalize hAe : va_A [(a_p0, .inr (12, [.ref a_p0_st, .ref a_p0_isKept, .int (Int32.ofInt i_p0_seats), .int (Int32.ofInt i_p0_stirs), .ref a_p0_brings, .ref a_p0_need, .ref a_p0_draft, .int (Int32.ofInt i_p0_dSeats), .int (Int32.ofInt i_p0_dStirs), .ref a_p0_dStir, .ref a_p0_dNeed, .int (Int32.ofInt i_p0_told), .int (Int32.ofInt i_p0_highest), .ref a_p0_tape, .int (Int32.ofInt i_p0_taped), .int (Int32.ofInt i_p0_pos), .int (Int32.ofInt i_p0_from), .int (Int32.ofInt i_p0_sort), .int (Int32.ofInt i_p0_value), .int (Int32.ofInt i_p0_fault), .int (Int32.ofInt i_p0_wrongAt), .ref a_p0_places, .ref a_p0_stirred, .ref a_p0_ways, .ref a_p0_waysThen, .ref a_p0_stays, .ref a_p0_fewest, .ref a_p0_bowls, .ref a_p0_has, .ref a_p0_goesOn, .ref a_p0_isThere, .ref a_p0_isThereThen, .ref a_p0_bestRow, .ref a_p0_lanes, .ref a_p0_sizes, .ref a_p0_cells, .int (Int32.ofInt i_p0_torn)])), (a_p0_st, .inl (G 1, 152, .inl (zA v_p0_st))), (a_p0_isKept, .inl (G 3, 2, .inl (zA v_p0_isKept))), (a_p0_brings, .inl (G 1, 35, .inl (zA v_p0_brings))), (a_p0_need, .inl (G 1, 7, .inl (zA v_p0_need))), (a_p0_draft, .inl (G 1, 38, .inl (zA v_p0_draft))), (a_p0_dStir, .inl (G 1, 15, .inl (zA v_p0_dStir))), (a_p0_dNeed, .inl (G 1, 7, .inl (zA v_p0_dNeed)))] s.heap.size = A at hD ⊢
  have hA : ∀ q : Nat, s.heap.size ≤ q → A q := fun q h => by rw [← hAe]; exact Or.inr h
  clear hAe hD0
  have hS : va_S A s.heap s.heap [] := va_S.rf
  have hl := lv_entry ([.ref a_p0]) (n := 3) (Nat.le_of_ble_eq_true rfl)
  rw [lg_entry_eq]
  generalize (lg_sl ([.ref a_p0]) ++ List.replicate (3 - (lg_sl ([.ref a_p0])).length) Slot.unset).toArray = ls at hl ⊢
  have hl : lv_has ls 3 [(0, .ref a_p0)] := hl
  refine W_nameQ (fun Q hQ => ?_)
  obtain ⟨H, hH⟩ : ∃ H, H = s.heap := ⟨_, rfl⟩
  replace hS : va_S A s.heap H [] := by rw [hH]; exact hS
  replace hP : va_P D vwCl [(a_p0, .inr (12, [.ref a_p0_st, .ref a_p0_isKept, .int (Int32.ofInt i_p0_seats), .int (Int32.ofInt i_p0_stirs), .ref a_p0_brings, .ref a_p0_need, .ref a_p0_draft, .int (Int32.ofInt i_p0_dSeats), .int (Int32.ofInt i_p0_dStirs), .ref a_p0_dStir, .ref a_p0_dNeed, .int (Int32.ofInt i_p0_told), .int (Int32.ofInt i_p0_highest), .ref a_p0_tape, .int (Int32.ofInt i_p0_taped), .int (Int32.ofInt i_p0_pos), .int (Int32.ofInt i_p0_from), .int (Int32.ofInt i_p0_sort), .int (Int32.ofInt i_p0_value), .int (Int32.ofInt i_p0_fault), .int (Int32.ofInt i_p0_wrongAt), .ref a_p0_places, .ref a_p0_stirred, .ref a_p0_ways, .ref a_p0_waysThen, .ref a_p0_stays, .ref a_p0_fewest, .ref a_p0_bowls, .ref a_p0_has, .ref a_p0_goesOn, .ref a_p0_isThere, .ref a_p0_isThereThen, .ref a_p0_bestRow, .ref a_p0_lanes, .ref a_p0_sizes, .ref a_p0_cells, .int (Int32.ofInt i_p0_torn)])), (a_p0_st, .inl (G 1, 152, .inl (zA v_p0_st))), (a_p0_isKept, .inl (G 3, 2, .inl (zA v_p0_isKept))), (a_p0_brings, .inl (G 1, 35, .inl (zA v_p0_brings))), (a_p0_need, .inl (G 1, 7, .inl (zA v_p0_need))), (a_p0_draft, .inl (G 1, 38, .inl (zA v_p0_draft))), (a_p0_dStir, .inl (G 1, 15, .inl (zA v_p0_dStir))), (a_p0_dNeed, .inl (G 1, 7, .inl (zA v_p0_dNeed)))] H := by rw [hH]; exact hP
  rw [← hH]
  clear hH
  unfold f_X12_keepDraft at hf
  refine lv_iconst (v := Int32.ofInt (0 : Int)) hx hb dX12_keepDraft_0 (by decide) ?_
  refine z_topi (fun z1 ez => ?_)
  replace hf := bnd_s hf ez
  clear ez
  refine lv_istore_n (lv' := [(1, .int (Int32.ofInt z1)), (0, .ref a_p0)]) hx hb dX12_keepDraft_1 rfl hl (by decide) rfl (fun ls hl => ?_)
  have hq := jn_i hf
  clear hf
  obtain ⟨J3, eJ3, hf⟩ := hq
  have hJ3 : ∀ (w2 : (Int → Int)) (ls : Array Slot) (H : Heap) (locs : List Loc), lv_has ls 3 [(0, .ref a_p0)] → va_P D vwCl [(a_p0, .inr (12, [.ref a_p0_st, .ref a_p0_isKept, .int (Int32.ofInt i_p0_seats), .int (Int32.ofInt i_p0_stirs), .ref a_p0_brings, .ref a_p0_need, .ref a_p0_draft, .int (Int32.ofInt i_p0_dSeats), .int (Int32.ofInt i_p0_dStirs), .ref a_p0_dStir, .ref a_p0_dNeed, .int (Int32.ofInt i_p0_told), .int (Int32.ofInt i_p0_highest), .ref a_p0_tape, .int (Int32.ofInt i_p0_taped), .int (Int32.ofInt i_p0_pos), .int (Int32.ofInt i_p0_from), .int (Int32.ofInt i_p0_sort), .int (Int32.ofInt i_p0_value), .int (Int32.ofInt i_p0_fault), .int (Int32.ofInt i_p0_wrongAt), .ref a_p0_places, .ref a_p0_stirred, .ref a_p0_ways, .ref a_p0_waysThen, .ref a_p0_stays, .ref a_p0_fewest, .ref a_p0_bowls, .ref a_p0_has, .ref a_p0_goesOn, .ref a_p0_isThere, .ref a_p0_isThereThen, .ref a_p0_bestRow, .ref a_p0_lanes, .ref a_p0_sizes, .ref a_p0_cells, .int (Int32.ofInt i_p0_torn)])), (a_p0_st, .inl (G 1, 152, .inl (zA w2))), (a_p0_isKept, .inl (G 3, 2, .inl (zA v_p0_isKept))), (a_p0_brings, .inl (G 1, 35, .inl (zA v_p0_brings))), (a_p0_need, .inl (G 1, 7, .inl (zA v_p0_need))), (a_p0_draft, .inl (G 1, 38, .inl (zA v_p0_draft))), (a_p0_dStir, .inl (G 1, 15, .inl (zA v_p0_dStir))), (a_p0_dNeed, .inl (G 1, 7, .inl (zA v_p0_dNeed)))] H → va_D A [(a_p0, .inr (12, [.ref a_p0_st, .ref a_p0_isKept, .int (Int32.ofInt i_p0_seats), .int (Int32.ofInt i_p0_stirs), .ref a_p0_brings, .ref a_p0_need, .ref a_p0_draft, .int (Int32.ofInt i_p0_dSeats), .int (Int32.ofInt i_p0_dStirs), .ref a_p0_dStir, .ref a_p0_dNeed, .int (Int32.ofInt i_p0_told), .int (Int32.ofInt i_p0_highest), .ref a_p0_tape, .int (Int32.ofInt i_p0_taped), .int (Int32.ofInt i_p0_pos), .int (Int32.ofInt i_p0_from), .int (Int32.ofInt i_p0_sort), .int (Int32.ofInt i_p0_value), .int (Int32.ofInt i_p0_fault), .int (Int32.ofInt i_p0_wrongAt), .ref a_p0_places, .ref a_p0_stirred, .ref a_p0_ways, .ref a_p0_waysThen, .ref a_p0_stays, .ref a_p0_fewest, .ref a_p0_bowls, .ref a_p0_has, .ref a_p0_goesOn, .ref a_p0_isThere, .ref a_p0_isThereThen, .ref a_p0_bestRow, .ref a_p0_lanes, .ref a_p0_sizes, .ref a_p0_cells, .int (Int32.ofInt i_p0_torn)])), (a_p0_st, .inl (G 1, 152, .inl (zA w2))), (a_p0_isKept, .inl (G 3, 2, .inl (zA v_p0_isKept))), (a_p0_brings, .inl (G 1, 35, .inl (zA v_p0_brings))), (a_p0_need, .inl (G 1, 7, .inl (zA v_p0_need))), (a_p0_draft, .inl (G 1, 38, .inl (zA v_p0_draft))), (a_p0_dStir, .inl (G 1, 15, .inl (zA v_p0_dStir))), (a_p0_dNeed, .inl (G 1, 7, .inl (zA v_p0_dNeed)))] → va_S A s.heap H locs → J3 w2 = some (o_i_p0_seats, o_i_p0_stirs, o_v_p0_st, o_v_p0_isKept, o_v_p0_brings, o_v_p0_need) → W p l e rm_X12_keepDraft s m ([.ref a_p0] : List Value).toArray below meth c H locs 0 0 Q (F0 m 26 ls []) := by
    clear hf hl hP hD hS
    intro w2 ls H locs hl hP hD hS hf
    replace hf := jn1_s eJ3 hf
    refine lv_aload_n hx hb dX12_keepDraft_26 rfl (lv_at hl 0 rfl) ?_
    refine lv_aload_n hx hb dX12_keepDraft_27 rfl (lv_at hl 0 rfl) ?_
    refine va_get (D := D) (ci := 12) (v := .int (Int32.ofInt i_p0_dSeats)) (C := RX12) (T := TX12) (N := 37) hx hb hts inX12_keepDraft_X12 hown hK hP 0 rfl rfl 7 (by decide) (hts _ mwX12_keepDraft_1) (fun _ h9 => h9) rfl dX12_keepDraft_28 ?_
    refine z_topi (fun z4 ez => ?_)
    replace hf := bnd_s hf ez
    clear ez
    refine va_put (D := D) (ci := 12) (v := .int (Int32.ofInt z4)) (ty := .int) (C := RX12) (T := TX12) (N := 37) hx hb hts inX12_keepDraft_X12 tyX12 tyX12_ok nmX12 hown hK hP hD hS 0 rfl rfl 2 (by decide) (hts _ mwX12_keepDraft_2) (fun _ h9 => h9) rfl (by decide +kernel) rfl rfl (Nat.le_of_ble_eq_true rfl) dX12_keepDraft_31 (fun H locs hP hD hS => ?_)
    have hP : va_P D vwCl [(a_p0, .inr (12, [.ref a_p0_st, .ref a_p0_isKept, .int (Int32.ofInt z4), .int (Int32.ofInt i_p0_stirs), .ref a_p0_brings, .ref a_p0_need, .ref a_p0_draft, .int (Int32.ofInt i_p0_dSeats), .int (Int32.ofInt i_p0_dStirs), .ref a_p0_dStir, .ref a_p0_dNeed, .int (Int32.ofInt i_p0_told), .int (Int32.ofInt i_p0_highest), .ref a_p0_tape, .int (Int32.ofInt i_p0_taped), .int (Int32.ofInt i_p0_pos), .int (Int32.ofInt i_p0_from), .int (Int32.ofInt i_p0_sort), .int (Int32.ofInt i_p0_value), .int (Int32.ofInt i_p0_fault), .int (Int32.ofInt i_p0_wrongAt), .ref a_p0_places, .ref a_p0_stirred, .ref a_p0_ways, .ref a_p0_waysThen, .ref a_p0_stays, .ref a_p0_fewest, .ref a_p0_bowls, .ref a_p0_has, .ref a_p0_goesOn, .ref a_p0_isThere, .ref a_p0_isThereThen, .ref a_p0_bestRow, .ref a_p0_lanes, .ref a_p0_sizes, .ref a_p0_cells, .int (Int32.ofInt i_p0_torn)])), (a_p0_st, .inl (G 1, 152, .inl (zA w2))), (a_p0_isKept, .inl (G 3, 2, .inl (zA v_p0_isKept))), (a_p0_brings, .inl (G 1, 35, .inl (zA v_p0_brings))), (a_p0_need, .inl (G 1, 7, .inl (zA v_p0_need))), (a_p0_draft, .inl (G 1, 38, .inl (zA v_p0_draft))), (a_p0_dStir, .inl (G 1, 15, .inl (zA v_p0_dStir))), (a_p0_dNeed, .inl (G 1, 7, .inl (zA v_p0_dNeed)))] H := hP
    have hD : va_D A [(a_p0, .inr (12, [.ref a_p0_st, .ref a_p0_isKept, .int (Int32.ofInt z4), .int (Int32.ofInt i_p0_stirs), .ref a_p0_brings, .ref a_p0_need, .ref a_p0_draft, .int (Int32.ofInt i_p0_dSeats), .int (Int32.ofInt i_p0_dStirs), .ref a_p0_dStir, .ref a_p0_dNeed, .int (Int32.ofInt i_p0_told), .int (Int32.ofInt i_p0_highest), .ref a_p0_tape, .int (Int32.ofInt i_p0_taped), .int (Int32.ofInt i_p0_pos), .int (Int32.ofInt i_p0_from), .int (Int32.ofInt i_p0_sort), .int (Int32.ofInt i_p0_value), .int (Int32.ofInt i_p0_fault), .int (Int32.ofInt i_p0_wrongAt), .ref a_p0_places, .ref a_p0_stirred, .ref a_p0_ways, .ref a_p0_waysThen, .ref a_p0_stays, .ref a_p0_fewest, .ref a_p0_bowls, .ref a_p0_has, .ref a_p0_goesOn, .ref a_p0_isThere, .ref a_p0_isThereThen, .ref a_p0_bestRow, .ref a_p0_lanes, .ref a_p0_sizes, .ref a_p0_cells, .int (Int32.ofInt i_p0_torn)])), (a_p0_st, .inl (G 1, 152, .inl (zA w2))), (a_p0_isKept, .inl (G 3, 2, .inl (zA v_p0_isKept))), (a_p0_brings, .inl (G 1, 35, .inl (zA v_p0_brings))), (a_p0_need, .inl (G 1, 7, .inl (zA v_p0_need))), (a_p0_draft, .inl (G 1, 38, .inl (zA v_p0_draft))), (a_p0_dStir, .inl (G 1, 15, .inl (zA v_p0_dStir))), (a_p0_dNeed, .inl (G 1, 7, .inl (zA v_p0_dNeed)))] := hD
    refine lv_aload_n hx hb dX12_keepDraft_34 rfl (lv_at hl 0 rfl) ?_
    refine lv_aload_n hx hb dX12_keepDraft_35 rfl (lv_at hl 0 rfl) ?_
    refine va_get (D := D) (ci := 12) (v := .int (Int32.ofInt i_p0_dStirs)) (C := RX12) (T := TX12) (N := 37) hx hb hts inX12_keepDraft_X12 hown hK hP 0 rfl rfl 8 (by decide) (hts _ mwX12_keepDraft_3) (fun _ h9 => h9) rfl dX12_keepDraft_36 ?_
    refine z_topi (fun z5 ez => ?_)
    replace hf := bnd_s hf ez
    clear ez
    refine va_put (D := D) (ci := 12) (v := .int (Int32.ofInt z5)) (ty := .int) (C := RX12) (T := TX12) (N := 37) hx hb hts inX12_keepDraft_X12 tyX12 tyX12_ok nmX12 hown hK hP hD hS 0 rfl rfl 3 (by decide) (hts _ mwX12_keepDraft_4) (fun _ h9 => h9) rfl (by decide +kernel) rfl rfl (Nat.le_of_ble_eq_true rfl) dX12_keepDraft_39 (fun H locs hP hD hS => ?_)
    have hP : va_P D vwCl [(a_p0, .inr (12, [.ref a_p0_st, .ref a_p0_isKept, .int (Int32.ofInt z4), .int (Int32.ofInt z5), .ref a_p0_brings, .ref a_p0_need, .ref a_p0_draft, .int (Int32.ofInt i_p0_dSeats), .int (Int32.ofInt i_p0_dStirs), .ref a_p0_dStir, .ref a_p0_dNeed, .int (Int32.ofInt i_p0_told), .int (Int32.ofInt i_p0_highest), .ref a_p0_tape, .int (Int32.ofInt i_p0_taped), .int (Int32.ofInt i_p0_pos), .int (Int32.ofInt i_p0_from), .int (Int32.ofInt i_p0_sort), .int (Int32.ofInt i_p0_value), .int (Int32.ofInt i_p0_fault), .int (Int32.ofInt i_p0_wrongAt), .ref a_p0_places, .ref a_p0_stirred, .ref a_p0_ways, .ref a_p0_waysThen, .ref a_p0_stays, .ref a_p0_fewest, .ref a_p0_bowls, .ref a_p0_has, .ref a_p0_goesOn, .ref a_p0_isThere, .ref a_p0_isThereThen, .ref a_p0_bestRow, .ref a_p0_lanes, .ref a_p0_sizes, .ref a_p0_cells, .int (Int32.ofInt i_p0_torn)])), (a_p0_st, .inl (G 1, 152, .inl (zA w2))), (a_p0_isKept, .inl (G 3, 2, .inl (zA v_p0_isKept))), (a_p0_brings, .inl (G 1, 35, .inl (zA v_p0_brings))), (a_p0_need, .inl (G 1, 7, .inl (zA v_p0_need))), (a_p0_draft, .inl (G 1, 38, .inl (zA v_p0_draft))), (a_p0_dStir, .inl (G 1, 15, .inl (zA v_p0_dStir))), (a_p0_dNeed, .inl (G 1, 7, .inl (zA v_p0_dNeed)))] H := hP
    have hD : va_D A [(a_p0, .inr (12, [.ref a_p0_st, .ref a_p0_isKept, .int (Int32.ofInt z4), .int (Int32.ofInt z5), .ref a_p0_brings, .ref a_p0_need, .ref a_p0_draft, .int (Int32.ofInt i_p0_dSeats), .int (Int32.ofInt i_p0_dStirs), .ref a_p0_dStir, .ref a_p0_dNeed, .int (Int32.ofInt i_p0_told), .int (Int32.ofInt i_p0_highest), .ref a_p0_tape, .int (Int32.ofInt i_p0_taped), .int (Int32.ofInt i_p0_pos), .int (Int32.ofInt i_p0_from), .int (Int32.ofInt i_p0_sort), .int (Int32.ofInt i_p0_value), .int (Int32.ofInt i_p0_fault), .int (Int32.ofInt i_p0_wrongAt), .ref a_p0_places, .ref a_p0_stirred, .ref a_p0_ways, .ref a_p0_waysThen, .ref a_p0_stays, .ref a_p0_fewest, .ref a_p0_bowls, .ref a_p0_has, .ref a_p0_goesOn, .ref a_p0_isThere, .ref a_p0_isThereThen, .ref a_p0_bestRow, .ref a_p0_lanes, .ref a_p0_sizes, .ref a_p0_cells, .int (Int32.ofInt i_p0_torn)])), (a_p0_st, .inl (G 1, 152, .inl (zA w2))), (a_p0_isKept, .inl (G 3, 2, .inl (zA v_p0_isKept))), (a_p0_brings, .inl (G 1, 35, .inl (zA v_p0_brings))), (a_p0_need, .inl (G 1, 7, .inl (zA v_p0_need))), (a_p0_draft, .inl (G 1, 38, .inl (zA v_p0_draft))), (a_p0_dStir, .inl (G 1, 15, .inl (zA v_p0_dStir))), (a_p0_dNeed, .inl (G 1, 7, .inl (zA v_p0_dNeed)))] := hD
    refine lv_iconst (v := Int32.ofInt (0 : Int)) hx hb dX12_keepDraft_42 (by decide) ?_
    refine z_topi (fun z6 ez => ?_)
    replace hf := bnd_s hf ez
    clear ez
    refine lv_istore_n (lv' := [(1, .int (Int32.ofInt z6)), (0, .ref a_p0)]) hx hb dX12_keepDraft_43 rfl hl (by decide) rfl (fun ls hl => ?_)
    have hq := jn_i hf
    clear hf
    obtain ⟨J8, eJ8, hf⟩ := hq
    have hJ8 : ∀ (w7 : (Int → Int)) (ls : Array Slot) (H : Heap) (locs : List Loc), lv_has ls 3 [(0, .ref a_p0)] → va_P D vwCl [(a_p0, .inr (12, [.ref a_p0_st, .ref a_p0_isKept, .int (Int32.ofInt z4), .int (Int32.ofInt z5), .ref a_p0_brings, .ref a_p0_need, .ref a_p0_draft, .int (Int32.ofInt i_p0_dSeats), .int (Int32.ofInt i_p0_dStirs), .ref a_p0_dStir, .ref a_p0_dNeed, .int (Int32.ofInt i_p0_told), .int (Int32.ofInt i_p0_highest), .ref a_p0_tape, .int (Int32.ofInt i_p0_taped), .int (Int32.ofInt i_p0_pos), .int (Int32.ofInt i_p0_from), .int (Int32.ofInt i_p0_sort), .int (Int32.ofInt i_p0_value), .int (Int32.ofInt i_p0_fault), .int (Int32.ofInt i_p0_wrongAt), .ref a_p0_places, .ref a_p0_stirred, .ref a_p0_ways, .ref a_p0_waysThen, .ref a_p0_stays, .ref a_p0_fewest, .ref a_p0_bowls, .ref a_p0_has, .ref a_p0_goesOn, .ref a_p0_isThere, .ref a_p0_isThereThen, .ref a_p0_bestRow, .ref a_p0_lanes, .ref a_p0_sizes, .ref a_p0_cells, .int (Int32.ofInt i_p0_torn)])), (a_p0_st, .inl (G 1, 152, .inl (zA w2))), (a_p0_isKept, .inl (G 3, 2, .inl (zA v_p0_isKept))), (a_p0_brings, .inl (G 1, 35, .inl (zA v_p0_brings))), (a_p0_need, .inl (G 1, 7, .inl (zA w7))), (a_p0_draft, .inl (G 1, 38, .inl (zA v_p0_draft))), (a_p0_dStir, .inl (G 1, 15, .inl (zA v_p0_dStir))), (a_p0_dNeed, .inl (G 1, 7, .inl (zA v_p0_dNeed)))] H → va_D A [(a_p0, .inr (12, [.ref a_p0_st, .ref a_p0_isKept, .int (Int32.ofInt z4), .int (Int32.ofInt z5), .ref a_p0_brings, .ref a_p0_need, .ref a_p0_draft, .int (Int32.ofInt i_p0_dSeats), .int (Int32.ofInt i_p0_dStirs), .ref a_p0_dStir, .ref a_p0_dNeed, .int (Int32.ofInt i_p0_told), .int (Int32.ofInt i_p0_highest), .ref a_p0_tape, .int (Int32.ofInt i_p0_taped), .int (Int32.ofInt i_p0_pos), .int (Int32.ofInt i_p0_from), .int (Int32.ofInt i_p0_sort), .int (Int32.ofInt i_p0_value), .int (Int32.ofInt i_p0_fault), .int (Int32.ofInt i_p0_wrongAt), .ref a_p0_places, .ref a_p0_stirred, .ref a_p0_ways, .ref a_p0_waysThen, .ref a_p0_stays, .ref a_p0_fewest, .ref a_p0_bowls, .ref a_p0_has, .ref a_p0_goesOn, .ref a_p0_isThere, .ref a_p0_isThereThen, .ref a_p0_bestRow, .ref a_p0_lanes, .ref a_p0_sizes, .ref a_p0_cells, .int (Int32.ofInt i_p0_torn)])), (a_p0_st, .inl (G 1, 152, .inl (zA w2))), (a_p0_isKept, .inl (G 3, 2, .inl (zA v_p0_isKept))), (a_p0_brings, .inl (G 1, 35, .inl (zA v_p0_brings))), (a_p0_need, .inl (G 1, 7, .inl (zA w7))), (a_p0_draft, .inl (G 1, 38, .inl (zA v_p0_draft))), (a_p0_dStir, .inl (G 1, 15, .inl (zA v_p0_dStir))), (a_p0_dNeed, .inl (G 1, 7, .inl (zA v_p0_dNeed)))] → va_S A s.heap H locs → J8 w7 = some (o_i_p0_seats, o_i_p0_stirs, o_v_p0_st, o_v_p0_isKept, o_v_p0_brings, o_v_p0_need) → W p l e rm_X12_keepDraft s m ([.ref a_p0] : List Value).toArray below meth c H locs 0 0 Q (F0 m 68 ls []) := by
      clear hf hl hP hD hS
      intro w7 ls H locs hl hP hD hS hf
      replace hf := jn1_s eJ8 hf
      refine lv_iconst (v := Int32.ofInt (0 : Int)) hx hb dX12_keepDraft_68 (by decide) ?_
      refine z_topi (fun z9 ez => ?_)
      replace hf := bnd_s hf ez
      clear ez
      refine lv_istore_n (lv' := [(1, .int (Int32.ofInt z9)), (0, .ref a_p0)]) hx hb dX12_keepDraft_69 rfl hl (by decide) rfl (fun ls hl => ?_)
      have hq := jn_i hf
      clear hf
      obtain ⟨J11, eJ11, hf⟩ := hq
      have hJ11 : ∀ (w10 : (Int → Int)) (ls : Array Slot) (H : Heap) (locs : List Loc), lv_has ls 3 [(0, .ref a_p0)] → va_P D vwCl [(a_p0, .inr (12, [.ref a_p0_st, .ref a_p0_isKept, .int (Int32.ofInt z4), .int (Int32.ofInt z5), .ref a_p0_brings, .ref a_p0_need, .ref a_p0_draft, .int (Int32.ofInt i_p0_dSeats), .int (Int32.ofInt i_p0_dStirs), .ref a_p0_dStir, .ref a_p0_dNeed, .int (Int32.ofInt i_p0_told), .int (Int32.ofInt i_p0_highest), .ref a_p0_tape, .int (Int32.ofInt i_p0_taped), .int (Int32.ofInt i_p0_pos), .int (Int32.ofInt i_p0_from), .int (Int32.ofInt i_p0_sort), .int (Int32.ofInt i_p0_value), .int (Int32.ofInt i_p0_fault), .int (Int32.ofInt i_p0_wrongAt), .ref a_p0_places, .ref a_p0_stirred, .ref a_p0_ways, .ref a_p0_waysThen, .ref a_p0_stays, .ref a_p0_fewest, .ref a_p0_bowls, .ref a_p0_has, .ref a_p0_goesOn, .ref a_p0_isThere, .ref a_p0_isThereThen, .ref a_p0_bestRow, .ref a_p0_lanes, .ref a_p0_sizes, .ref a_p0_cells, .int (Int32.ofInt i_p0_torn)])), (a_p0_st, .inl (G 1, 152, .inl (zA w2))), (a_p0_isKept, .inl (G 3, 2, .inl (zA v_p0_isKept))), (a_p0_brings, .inl (G 1, 35, .inl (zA w10))), (a_p0_need, .inl (G 1, 7, .inl (zA w7))), (a_p0_draft, .inl (G 1, 38, .inl (zA v_p0_draft))), (a_p0_dStir, .inl (G 1, 15, .inl (zA v_p0_dStir))), (a_p0_dNeed, .inl (G 1, 7, .inl (zA v_p0_dNeed)))] H → va_D A [(a_p0, .inr (12, [.ref a_p0_st, .ref a_p0_isKept, .int (Int32.ofInt z4), .int (Int32.ofInt z5), .ref a_p0_brings, .ref a_p0_need, .ref a_p0_draft, .int (Int32.ofInt i_p0_dSeats), .int (Int32.ofInt i_p0_dStirs), .ref a_p0_dStir, .ref a_p0_dNeed, .int (Int32.ofInt i_p0_told), .int (Int32.ofInt i_p0_highest), .ref a_p0_tape, .int (Int32.ofInt i_p0_taped), .int (Int32.ofInt i_p0_pos), .int (Int32.ofInt i_p0_from), .int (Int32.ofInt i_p0_sort), .int (Int32.ofInt i_p0_value), .int (Int32.ofInt i_p0_fault), .int (Int32.ofInt i_p0_wrongAt), .ref a_p0_places, .ref a_p0_stirred, .ref a_p0_ways, .ref a_p0_waysThen, .ref a_p0_stays, .ref a_p0_fewest, .ref a_p0_bowls, .ref a_p0_has, .ref a_p0_goesOn, .ref a_p0_isThere, .ref a_p0_isThereThen, .ref a_p0_bestRow, .ref a_p0_lanes, .ref a_p0_sizes, .ref a_p0_cells, .int (Int32.ofInt i_p0_torn)])), (a_p0_st, .inl (G 1, 152, .inl (zA w2))), (a_p0_isKept, .inl (G 3, 2, .inl (zA v_p0_isKept))), (a_p0_brings, .inl (G 1, 35, .inl (zA w10))), (a_p0_need, .inl (G 1, 7, .inl (zA w7))), (a_p0_draft, .inl (G 1, 38, .inl (zA v_p0_draft))), (a_p0_dStir, .inl (G 1, 15, .inl (zA v_p0_dStir))), (a_p0_dNeed, .inl (G 1, 7, .inl (zA v_p0_dNeed)))] → va_S A s.heap H locs → J11 w10 = some (o_i_p0_seats, o_i_p0_stirs, o_v_p0_st, o_v_p0_isKept, o_v_p0_brings, o_v_p0_need) → W p l e rm_X12_keepDraft s m ([.ref a_p0] : List Value).toArray below meth c H locs 0 0 Q (F0 m 117 ls []) := by
        clear hf hl hP hD hS
        intro w10 ls H locs hl hP hD hS hf
        replace hf := jn1_s eJ11 hf
        refine lv_aload_n hx hb dX12_keepDraft_117 rfl (lv_at hl 0 rfl) ?_
        refine va_get (D := D) (ci := 12) (v := .ref a_p0_isKept) (C := RX12) (T := TX12) (N := 37) hx hb hts inX12_keepDraft_X12 hown hK hP 0 rfl rfl 1 (by decide) (hts _ mwX12_keepDraft_5) (fun _ h9 => h9) rfl dX12_keepDraft_118 ?_
        refine lv_iconst (v := Int32.ofInt (0 : Int)) hx hb dX12_keepDraft_121 (by decide) ?_
        refine lv_iconst (v := Int32.ofInt (0 : Int)) hx hb dX12_keepDraft_122 (by decide) ?_
        have hc := ck_c hf
        replace hf := ck_r hf
        have hz := ck_c hf
        replace hf := ck_r hf
        refine zs_zast (wf := fun w12 => [(a_p0, .inr (12, [.ref a_p0_st, .ref a_p0_isKept, .int (Int32.ofInt z4), .int (Int32.ofInt z5), .ref a_p0_brings, .ref a_p0_need, .ref a_p0_draft, .int (Int32.ofInt i_p0_dSeats), .int (Int32.ofInt i_p0_dStirs), .ref a_p0_dStir, .ref a_p0_dNeed, .int (Int32.ofInt i_p0_told), .int (Int32.ofInt i_p0_highest), .ref a_p0_tape, .int (Int32.ofInt i_p0_taped), .int (Int32.ofInt i_p0_pos), .int (Int32.ofInt i_p0_from), .int (Int32.ofInt i_p0_sort), .int (Int32.ofInt i_p0_value), .int (Int32.ofInt i_p0_fault), .int (Int32.ofInt i_p0_wrongAt), .ref a_p0_places, .ref a_p0_stirred, .ref a_p0_ways, .ref a_p0_waysThen, .ref a_p0_stays, .ref a_p0_fewest, .ref a_p0_bowls, .ref a_p0_has, .ref a_p0_goesOn, .ref a_p0_isThere, .ref a_p0_isThereThen, .ref a_p0_bestRow, .ref a_p0_lanes, .ref a_p0_sizes, .ref a_p0_cells, .int (Int32.ofInt i_p0_torn)])), (a_p0_st, .inl (G 1, 152, .inl (zA w2))), (a_p0_isKept, .inl (G 3, 2, .inl (zA w12))), (a_p0_brings, .inl (G 1, 35, .inl (zA w10))), (a_p0_need, .inl (G 1, 7, .inl (zA w7))), (a_p0_draft, .inl (G 1, 38, .inl (zA v_p0_draft))), (a_p0_dStir, .inl (G 1, 15, .inl (zA v_p0_dStir))), (a_p0_dNeed, .inl (G 1, 7, .inl (zA v_p0_dNeed)))]) hx hb hK hP hD hS 2 3 rfl rfl hc (z_bv hz) dX12_keepDraft_123 (fun _ => rfl) (fun w12 ez H locs hP hD hS => ?_)
        replace hf := bnd_s hf ez
        clear ez hc
        refine lv_aload_n hx hb dX12_keepDraft_124 rfl (lv_at hl 0 rfl) ?_
        refine va_get (D := D) (ci := 12) (v := .ref a_p0_isKept) (C := RX12) (T := TX12) (N := 37) hx hb hts inX12_keepDraft_X12 hown hK hP 0 rfl rfl 1 (by decide) (hts _ mwX12_keepDraft_5) (fun _ h9 => h9) rfl dX12_keepDraft_125 ?_
        refine lv_iconst (v := Int32.ofInt (1 : Int)) hx hb dX12_keepDraft_128 (by decide) ?_
        refine lv_iconst (v := Int32.ofInt (0 : Int)) hx hb dX12_keepDraft_129 (by decide) ?_
        have hc := ck_c hf
        replace hf := ck_r hf
        have hz := ck_c hf
        replace hf := ck_r hf
        refine zs_zast (wf := fun w13 => [(a_p0, .inr (12, [.ref a_p0_st, .ref a_p0_isKept, .int (Int32.ofInt z4), .int (Int32.ofInt z5), .ref a_p0_brings, .ref a_p0_need, .ref a_p0_draft, .int (Int32.ofInt i_p0_dSeats), .int (Int32.ofInt i_p0_dStirs), .ref a_p0_dStir, .ref a_p0_dNeed, .int (Int32.ofInt i_p0_told), .int (Int32.ofInt i_p0_highest), .ref a_p0_tape, .int (Int32.ofInt i_p0_taped), .int (Int32.ofInt i_p0_pos), .int (Int32.ofInt i_p0_from), .int (Int32.ofInt i_p0_sort), .int (Int32.ofInt i_p0_value), .int (Int32.ofInt i_p0_fault), .int (Int32.ofInt i_p0_wrongAt), .ref a_p0_places, .ref a_p0_stirred, .ref a_p0_ways, .ref a_p0_waysThen, .ref a_p0_stays, .ref a_p0_fewest, .ref a_p0_bowls, .ref a_p0_has, .ref a_p0_goesOn, .ref a_p0_isThere, .ref a_p0_isThereThen, .ref a_p0_bestRow, .ref a_p0_lanes, .ref a_p0_sizes, .ref a_p0_cells, .int (Int32.ofInt i_p0_torn)])), (a_p0_st, .inl (G 1, 152, .inl (zA w2))), (a_p0_isKept, .inl (G 3, 2, .inl (zA w13))), (a_p0_brings, .inl (G 1, 35, .inl (zA w10))), (a_p0_need, .inl (G 1, 7, .inl (zA w7))), (a_p0_draft, .inl (G 1, 38, .inl (zA v_p0_draft))), (a_p0_dStir, .inl (G 1, 15, .inl (zA v_p0_dStir))), (a_p0_dNeed, .inl (G 1, 7, .inl (zA v_p0_dNeed)))]) hx hb hK hP hD hS 2 3 rfl rfl hc (z_bv hz) dX12_keepDraft_130 (fun _ => rfl) (fun w13 ez H locs hP hD hS => ?_)
        replace hf := bnd_s hf ez
        clear ez hc
        obtain ⟨rfl, rfl, rfl, rfl, rfl, rfl⟩ := ou6 hf
        rw [hQ]
        exact W.vret hx hb hr (fun t ht hW => ⟨⟨(), rfl, trivial, by rw [ht]; exact hP, va_K.moved hW.alike hK, hD⟩, hS.F ht⟩) hS.2.2 dX12_keepDraft_131
      have hq := lq2_i hf
      clear hf
      obtain ⟨B16, eB16, NB16, hf⟩ := hq
      have hB16 : ∀ (n : Nat) (z14 : Int) (w15 : (Int → Int)) (ls : Array Slot) (H : Heap) (locs : List Loc), lv_has ls 3 [(1, .int (Int32.ofInt z14)), (0, .ref a_p0)] → va_P D vwCl [(a_p0, .inr (12, [.ref a_p0_st, .ref a_p0_isKept, .int (Int32.ofInt z4), .int (Int32.ofInt z5), .ref a_p0_brings, .ref a_p0_need, .ref a_p0_draft, .int (Int32.ofInt i_p0_dSeats), .int (Int32.ofInt i_p0_dStirs), .ref a_p0_dStir, .ref a_p0_dNeed, .int (Int32.ofInt i_p0_told), .int (Int32.ofInt i_p0_highest), .ref a_p0_tape, .int (Int32.ofInt i_p0_taped), .int (Int32.ofInt i_p0_pos), .int (Int32.ofInt i_p0_from), .int (Int32.ofInt i_p0_sort), .int (Int32.ofInt i_p0_value), .int (Int32.ofInt i_p0_fault), .int (Int32.ofInt i_p0_wrongAt), .ref a_p0_places, .ref a_p0_stirred, .ref a_p0_ways, .ref a_p0_waysThen, .ref a_p0_stays, .ref a_p0_fewest, .ref a_p0_bowls, .ref a_p0_has, .ref a_p0_goesOn, .ref a_p0_isThere, .ref a_p0_isThereThen, .ref a_p0_bestRow, .ref a_p0_lanes, .ref a_p0_sizes, .ref a_p0_cells, .int (Int32.ofInt i_p0_torn)])), (a_p0_st, .inl (G 1, 152, .inl (zA w2))), (a_p0_isKept, .inl (G 3, 2, .inl (zA v_p0_isKept))), (a_p0_brings, .inl (G 1, 35, .inl (zA w15))), (a_p0_need, .inl (G 1, 7, .inl (zA w7))), (a_p0_draft, .inl (G 1, 38, .inl (zA v_p0_draft))), (a_p0_dStir, .inl (G 1, 15, .inl (zA v_p0_dStir))), (a_p0_dNeed, .inl (G 1, 7, .inl (zA v_p0_dNeed)))] H → va_D A [(a_p0, .inr (12, [.ref a_p0_st, .ref a_p0_isKept, .int (Int32.ofInt z4), .int (Int32.ofInt z5), .ref a_p0_brings, .ref a_p0_need, .ref a_p0_draft, .int (Int32.ofInt i_p0_dSeats), .int (Int32.ofInt i_p0_dStirs), .ref a_p0_dStir, .ref a_p0_dNeed, .int (Int32.ofInt i_p0_told), .int (Int32.ofInt i_p0_highest), .ref a_p0_tape, .int (Int32.ofInt i_p0_taped), .int (Int32.ofInt i_p0_pos), .int (Int32.ofInt i_p0_from), .int (Int32.ofInt i_p0_sort), .int (Int32.ofInt i_p0_value), .int (Int32.ofInt i_p0_fault), .int (Int32.ofInt i_p0_wrongAt), .ref a_p0_places, .ref a_p0_stirred, .ref a_p0_ways, .ref a_p0_waysThen, .ref a_p0_stays, .ref a_p0_fewest, .ref a_p0_bowls, .ref a_p0_has, .ref a_p0_goesOn, .ref a_p0_isThere, .ref a_p0_isThereThen, .ref a_p0_bestRow, .ref a_p0_lanes, .ref a_p0_sizes, .ref a_p0_cells, .int (Int32.ofInt i_p0_torn)])), (a_p0_st, .inl (G 1, 152, .inl (zA w2))), (a_p0_isKept, .inl (G 3, 2, .inl (zA v_p0_isKept))), (a_p0_brings, .inl (G 1, 35, .inl (zA w15))), (a_p0_need, .inl (G 1, 7, .inl (zA w7))), (a_p0_draft, .inl (G 1, 38, .inl (zA v_p0_draft))), (a_p0_dStir, .inl (G 1, 15, .inl (zA v_p0_dStir))), (a_p0_dNeed, .inl (G 1, 7, .inl (zA v_p0_dNeed)))] → va_S A s.heap H locs → lq2 B16 n z14 w15 = some (o_i_p0_seats, o_i_p0_stirs, o_v_p0_st, o_v_p0_isKept, o_v_p0_brings, o_v_p0_need) → W p l e rm_X12_keepDraft s m ([.ref a_p0] : List Value).toArray below meth c H locs 0 0 Q (F0 m 70 ls []) := by
        clear hf hl hP hD hS
        intro n
        induction n with
        | zero =>
          intro z14 w15 ls H locs hl hP hD hS hf
          exact (lq2_0 hf).elim
        | succ n ih70 =>
          intro z14 w15 ls H locs hl hP hD hS hf
          replace hf := lq2_s eB16 hf
          unfold B_X12_keepDraft_70 at hf
          refine lv_iload_n hx hb dX12_keepDraft_70 rfl (lv_at hl 0 rfl) ?_
          refine lv_aload_n hx hb dX12_keepDraft_71 rfl (lv_at hl 1 rfl) ?_
          refine va_get (D := D) (ci := 12) (v := .int (Int32.ofInt z5)) (C := RX12) (T := TX12) (N := 37) hx hb hts inX12_keepDraft_X12 hown hK hP 0 rfl rfl 3 (by decide) (hts _ mwX12_keepDraft_4) (fun _ h9 => h9) rfl dX12_keepDraft_72 ?_
          have hr16 := ck_c hf
          replace hf := ck_r hf
          have hr17 := ck_c hf
          replace hf := ck_r hf
          refine lv_icmp_ge (tgt := 117) hx hb dX12_keepDraft_75 (by decide) (fun cc => ?_) (fun cc => ?_)
          ·
            replace hf := ite_t ((z_le hr17 hr16).mp cc) hf
            clear cc
            exact hJ11 _ _ _ _ (lv_sub hl [1] rfl) hP hD hS hf
          ·
            replace hf := ite_f (fun h9 => cc ((z_le hr17 hr16).mpr h9)) hf
            clear cc
            refine lv_iconst (v := Int32.ofInt (0 : Int)) hx hb dX12_keepDraft_78 (by decide) ?_
            refine z_topi (fun z19 ez => ?_)
            replace hf := bnd_s hf ez
            clear ez
            refine lv_istore_n (lv' := [(2, .int (Int32.ofInt z19)), (1, .int (Int32.ofInt z14)), (0, .ref a_p0)]) hx hb dX12_keepDraft_79 rfl hl (by decide) rfl (fun ls hl => ?_)
            have hq := lq2_i hf
            clear hf
            obtain ⟨B22, eB22, NB22, hf⟩ := hq
            have hB22 : ∀ (n : Nat) (z20 : Int) (w21 : (Int → Int)) (ls : Array Slot) (H : Heap) (locs : List Loc), lv_has ls 3 [(2, .int (Int32.ofInt z20)), (1, .int (Int32.ofInt z14)), (0, .ref a_p0)] → va_P D vwCl [(a_p0, .inr (12, [.ref a_p0_st, .ref a_p0_isKept, .int (Int32.ofInt z4), .int (Int32.ofInt z5), .ref a_p0_brings, .ref a_p0_need, .ref a_p0_draft, .int (Int32.ofInt i_p0_dSeats), .int (Int32.ofInt i_p0_dStirs), .ref a_p0_dStir, .ref a_p0_dNeed, .int (Int32.ofInt i_p0_told), .int (Int32.ofInt i_p0_highest), .ref a_p0_tape, .int (Int32.ofInt i_p0_taped), .int (Int32.ofInt i_p0_pos), .int (Int32.ofInt i_p0_from), .int (Int32.ofInt i_p0_sort), .int (Int32.ofInt i_p0_value), .int (Int32.ofInt i_p0_fault), .int (Int32.ofInt i_p0_wrongAt), .ref a_p0_places, .ref a_p0_stirred, .ref a_p0_ways, .ref a_p0_waysThen, .ref a_p0_stays, .ref a_p0_fewest, .ref a_p0_bowls, .ref a_p0_has, .ref a_p0_goesOn, .ref a_p0_isThere, .ref a_p0_isThereThen, .ref a_p0_bestRow, .ref a_p0_lanes, .ref a_p0_sizes, .ref a_p0_cells, .int (Int32.ofInt i_p0_torn)])), (a_p0_st, .inl (G 1, 152, .inl (zA w2))), (a_p0_isKept, .inl (G 3, 2, .inl (zA v_p0_isKept))), (a_p0_brings, .inl (G 1, 35, .inl (zA w21))), (a_p0_need, .inl (G 1, 7, .inl (zA w7))), (a_p0_draft, .inl (G 1, 38, .inl (zA v_p0_draft))), (a_p0_dStir, .inl (G 1, 15, .inl (zA v_p0_dStir))), (a_p0_dNeed, .inl (G 1, 7, .inl (zA v_p0_dNeed)))] H → va_D A [(a_p0, .inr (12, [.ref a_p0_st, .ref a_p0_isKept, .int (Int32.ofInt z4), .int (Int32.ofInt z5), .ref a_p0_brings, .ref a_p0_need, .ref a_p0_draft, .int (Int32.ofInt i_p0_dSeats), .int (Int32.ofInt i_p0_dStirs), .ref a_p0_dStir, .ref a_p0_dNeed, .int (Int32.ofInt i_p0_told), .int (Int32.ofInt i_p0_highest), .ref a_p0_tape, .int (Int32.ofInt i_p0_taped), .int (Int32.ofInt i_p0_pos), .int (Int32.ofInt i_p0_from), .int (Int32.ofInt i_p0_sort), .int (Int32.ofInt i_p0_value), .int (Int32.ofInt i_p0_fault), .int (Int32.ofInt i_p0_wrongAt), .ref a_p0_places, .ref a_p0_stirred, .ref a_p0_ways, .ref a_p0_waysThen, .ref a_p0_stays, .ref a_p0_fewest, .ref a_p0_bowls, .ref a_p0_has, .ref a_p0_goesOn, .ref a_p0_isThere, .ref a_p0_isThereThen, .ref a_p0_bestRow, .ref a_p0_lanes, .ref a_p0_sizes, .ref a_p0_cells, .int (Int32.ofInt i_p0_torn)])), (a_p0_st, .inl (G 1, 152, .inl (zA w2))), (a_p0_isKept, .inl (G 3, 2, .inl (zA v_p0_isKept))), (a_p0_brings, .inl (G 1, 35, .inl (zA w21))), (a_p0_need, .inl (G 1, 7, .inl (zA w7))), (a_p0_draft, .inl (G 1, 38, .inl (zA v_p0_draft))), (a_p0_dStir, .inl (G 1, 15, .inl (zA v_p0_dStir))), (a_p0_dNeed, .inl (G 1, 7, .inl (zA v_p0_dNeed)))] → va_S A s.heap H locs → lq2 B22 n z20 w21 = some (o_i_p0_seats, o_i_p0_stirs, o_v_p0_st, o_v_p0_isKept, o_v_p0_brings, o_v_p0_need) → W p l e rm_X12_keepDraft s m ([.ref a_p0] : List Value).toArray below meth c H locs 0 0 Q (F0 m 80 ls []) := by
              clear hf hl hP hD hS
              intro n
              induction n with
              | zero =>
                intro z20 w21 ls H locs hl hP hD hS hf
                exact (lq2_0 hf).elim
              | succ n ih80 =>
                intro z20 w21 ls H locs hl hP hD hS hf
                replace hf := lq2_s eB22 hf
                unfold B_X12_keepDraft_80 at hf
                refine lv_iload_n hx hb dX12_keepDraft_80 rfl (lv_at hl 0 rfl) ?_
                refine lv_aload_n hx hb dX12_keepDraft_81 rfl (lv_at hl 2 rfl) ?_
                refine va_get (D := D) (ci := 12) (v := .int (Int32.ofInt z4)) (C := RX12) (T := TX12) (N := 37) hx hb hts inX12_keepDraft_X12 hown hK hP 0 rfl rfl 2 (by decide) (hts _ mwX12_keepDraft_2) (fun _ h9 => h9) rfl dX12_keepDraft_82 ?_
                have hr22 := ck_c hf
                replace hf := ck_r hf
                have hr23 := ck_c hf
                replace hf := ck_r hf
                refine lv_icmp_ge (tgt := 111) hx hb dX12_keepDraft_85 (by decide) (fun cc => ?_) (fun cc => ?_)
                ·
                  replace hf := ite_t ((z_le hr23 hr22).mp cc) hf
                  clear cc
                  obtain ⟨z25, ez⟩ : ∃ y : Int, y = (z14 + (1 : Int)) := ⟨_, rfl⟩
                  replace hf := bnd_s hf ez
                  refine lv_iinc (v := Int32.ofInt z25) (lv' := [(1, .int (Int32.ofInt z25)), (2, .int (Int32.ofInt z20)), (0, .ref a_p0)]) hx hb dX12_keepDraft_111 hl (k := 1) rfl (by rw [ez]; exact (Int32.ofInt_add _ _).symm) (by decide) rfl (fun ls hl => ?_)
                  clear ez
                  refine lv_goto (tgt := 70) hx hb dX12_keepDraft_114 (by decide) ?_
                  exact ih70 _ _ _ _ _ (lv_sub hl [0, 2] rfl) hP hD hS hf
                ·
                  replace hf := ite_f (fun h9 => cc ((z_le hr23 hr22).mpr h9)) hf
                  clear cc
                  refine lv_aload_n hx hb dX12_keepDraft_88 rfl (lv_at hl 2 rfl) ?_
                  refine va_get (D := D) (ci := 12) (v := .ref a_p0_brings) (C := RX12) (T := TX12) (N := 37) hx hb hts inX12_keepDraft_X12 hown hK hP 0 rfl rfl 4 (by decide) (hts _ mwX12_keepDraft_6) (fun _ h9 => h9) rfl dX12_keepDraft_89 ?_
                  refine lv_bipush (v := Int32.ofInt (7 : Int)) hx hb dX12_keepDraft_92 (by decide) ?_
                  refine lv_iload_n hx hb dX12_keepDraft_94 rfl (lv_at hl 1 rfl) ?_
                  refine lv_imul hx hb dX12_keepDraft_95 (z_ci (Int32.ofInt_mul (7 : Int) z14) ?_)
                  refine lv_iload_n hx hb dX12_keepDraft_96 rfl (lv_at hl 0 rfl) ?_
                  refine lv_iadd hx hb dX12_keepDraft_97 (z_ci (Int32.ofInt_add ((7 : Int) * z14) z20) ?_)
                  refine lv_aload_n hx hb dX12_keepDraft_98 rfl (lv_at hl 2 rfl) ?_
                  refine lv_iload_n hx hb dX12_keepDraft_99 rfl (lv_at hl 1 rfl) ?_
                  refine lv_iload_n hx hb dX12_keepDraft_100 rfl (lv_at hl 0 rfl) ?_
                  have hq := bd1_s hf
                  clear hf
                  obtain ⟨z26, hcall, hf⟩ := hq
                  refine gnI (va_runV (As := [.int (Int32.ofInt z14), .int (Int32.ofInt z20)]) (rest := [.int (Int32.ofInt (((7 : Int) * z14) + z20)), .ref a_p0_brings]) ⟨hx, hb, hml, hown, hts⟩ (c_X12_broughtTo (l := l) (D := D) (G := G) (sz := H.size) (a_p0 := a_p0) (a_p0_st := a_p0_st) (a_p0_isKept := a_p0_isKept) (a_p0_brings := a_p0_brings) (a_p0_need := a_p0_need) (a_p0_draft := a_p0_draft) (a_p0_dStir := a_p0_dStir) (a_p0_dNeed := a_p0_dNeed) (a_p0_tape := a_p0_tape) (a_p0_places := a_p0_places) (a_p0_stirred := a_p0_stirred) (a_p0_ways := a_p0_ways) (a_p0_waysThen := a_p0_waysThen) (a_p0_stays := a_p0_stays) (a_p0_fewest := a_p0_fewest) (a_p0_bowls := a_p0_bowls) (a_p0_has := a_p0_has) (a_p0_goesOn := a_p0_goesOn) (a_p0_isThere := a_p0_isThere) (a_p0_isThereThen := a_p0_isThereThen) (a_p0_bestRow := a_p0_bestRow) (a_p0_lanes := a_p0_lanes) (a_p0_sizes := a_p0_sizes) (a_p0_cells := a_p0_cells) (i_p0_seats := z4) (i_p0_stirs := z5) (i_p0_dSeats := i_p0_dSeats) (i_p0_dStirs := i_p0_dStirs) (i_p0_told := i_p0_told) (i_p0_highest := i_p0_highest) (i_p0_taped := i_p0_taped) (i_p0_pos := i_p0_pos) (i_p0_from := i_p0_from) (i_p0_sort := i_p0_sort) (i_p0_value := i_p0_value) (i_p0_fault := i_p0_fault) (i_p0_wrongAt := i_p0_wrongAt) (i_p0_torn := i_p0_torn) (v_p0_dStir := v_p0_dStir) (x1 := z14) (x2 := z20) (r := z26) (hf := hcall)) (cwV 2 hts gX12_keepDraft_X12_broughtTo rfl rfl rfl hdV_yX12_broughtTo_RX12 ⟨Nat.le_of_ble_eq_true rfl, Nat.le_of_ble_eq_true rfl⟩) (preG_V (ci := 12) (q := (RX12, TX12, 37)) (hP.sub [0, 6] rfl) (hD.sub [0, 6] rfl rfl) hK rfl rfl) rfl rfl hl.1 rfl (lv_room (Nat.le_of_ble_eq_true rfl)) dX12_keepDraft_101 ⟨Nat.le_of_ble_eq_true rfl, Nat.le_of_ble_eq_true rfl⟩) hP hD hS hA [0, 6] rfl (fun H locs hP hD hS => ?_)
                  clear hcall
                  have hc := ck_c hf
                  replace hf := ck_r hf
                  refine zs_iast (wf := fun w27 => [(a_p0, .inr (12, [.ref a_p0_st, .ref a_p0_isKept, .int (Int32.ofInt z4), .int (Int32.ofInt z5), .ref a_p0_brings, .ref a_p0_need, .ref a_p0_draft, .int (Int32.ofInt i_p0_dSeats), .int (Int32.ofInt i_p0_dStirs), .ref a_p0_dStir, .ref a_p0_dNeed, .int (Int32.ofInt i_p0_told), .int (Int32.ofInt i_p0_highest), .ref a_p0_tape, .int (Int32.ofInt i_p0_taped), .int (Int32.ofInt i_p0_pos), .int (Int32.ofInt i_p0_from), .int (Int32.ofInt i_p0_sort), .int (Int32.ofInt i_p0_value), .int (Int32.ofInt i_p0_fault), .int (Int32.ofInt i_p0_wrongAt), .ref a_p0_places, .ref a_p0_stirred, .ref a_p0_ways, .ref a_p0_waysThen, .ref a_p0_stays, .ref a_p0_fewest, .ref a_p0_bowls, .ref a_p0_has, .ref a_p0_goesOn, .ref a_p0_isThere, .ref a_p0_isThereThen, .ref a_p0_bestRow, .ref a_p0_lanes, .ref a_p0_sizes, .ref a_p0_cells, .int (Int32.ofInt i_p0_torn)])), (a_p0_st, .inl (G 1, 152, .inl (zA w2))), (a_p0_isKept, .inl (G 3, 2, .inl (zA v_p0_isKept))), (a_p0_brings, .inl (G 1, 35, .inl (zA w27))), (a_p0_need, .inl (G 1, 7, .inl (zA w7))), (a_p0_draft, .inl (G 1, 38, .inl (zA v_p0_draft))), (a_p0_dStir, .inl (G 1, 15, .inl (zA v_p0_dStir))), (a_p0_dNeed, .inl (G 1, 7, .inl (zA v_p0_dNeed)))]) hx hb hK hP hD hS 3 1 rfl rfl hc dX12_keepDraft_104 (fun _ => rfl) (fun w27 ez H locs hP hD hS => ?_)
                  replace hf := bnd_s hf ez
                  clear ez hc
                  obtain ⟨z28, ez⟩ : ∃ y : Int, y = (z20 + (1 : Int)) := ⟨_, rfl⟩
                  replace hf := bnd_s hf ez
                  refine lv_iinc (v := Int32.ofInt z28) (lv' := [(2, .int (Int32.ofInt z28)), (1, .int (Int32.ofInt z14)), (0, .ref a_p0)]) hx hb dX12_keepDraft_105 hl (k := 0) rfl (by rw [ez]; exact (Int32.ofInt_add _ _).symm) (by decide) rfl (fun ls hl => ?_)
                  clear ez
                  refine lv_goto (tgt := 80) hx hb dX12_keepDraft_108 (by decide) ?_
                  exact ih80 _ _ _ _ _ (lv_sub hl [0, 1, 2] rfl) hP hD hS hf
            exact hB22 _ _ _ _ _ _ (lv_sub hl [0, 1, 2] rfl) hP hD hS hf
      exact hB16 _ _ _ _ _ _ (lv_sub hl [0, 1] rfl) hP hD hS hf
    have hq := lq2_i hf
    clear hf
    obtain ⟨B31, eB31, NB31, hf⟩ := hq
    have hB31 : ∀ (n : Nat) (z29 : Int) (w30 : (Int → Int)) (ls : Array Slot) (H : Heap) (locs : List Loc), lv_has ls 3 [(1, .int (Int32.ofInt z29)), (0, .ref a_p0)] → va_P D vwCl [(a_p0, .inr (12, [.ref a_p0_st, .ref a_p0_isKept, .int (Int32.ofInt z4), .int (Int32.ofInt z5), .ref a_p0_brings, .ref a_p0_need, .ref a_p0_draft, .int (Int32.ofInt i_p0_dSeats), .int (Int32.ofInt i_p0_dStirs), .ref a_p0_dStir, .ref a_p0_dNeed, .int (Int32.ofInt i_p0_told), .int (Int32.ofInt i_p0_highest), .ref a_p0_tape, .int (Int32.ofInt i_p0_taped), .int (Int32.ofInt i_p0_pos), .int (Int32.ofInt i_p0_from), .int (Int32.ofInt i_p0_sort), .int (Int32.ofInt i_p0_value), .int (Int32.ofInt i_p0_fault), .int (Int32.ofInt i_p0_wrongAt), .ref a_p0_places, .ref a_p0_stirred, .ref a_p0_ways, .ref a_p0_waysThen, .ref a_p0_stays, .ref a_p0_fewest, .ref a_p0_bowls, .ref a_p0_has, .ref a_p0_goesOn, .ref a_p0_isThere, .ref a_p0_isThereThen, .ref a_p0_bestRow, .ref a_p0_lanes, .ref a_p0_sizes, .ref a_p0_cells, .int (Int32.ofInt i_p0_torn)])), (a_p0_st, .inl (G 1, 152, .inl (zA w2))), (a_p0_isKept, .inl (G 3, 2, .inl (zA v_p0_isKept))), (a_p0_brings, .inl (G 1, 35, .inl (zA v_p0_brings))), (a_p0_need, .inl (G 1, 7, .inl (zA w30))), (a_p0_draft, .inl (G 1, 38, .inl (zA v_p0_draft))), (a_p0_dStir, .inl (G 1, 15, .inl (zA v_p0_dStir))), (a_p0_dNeed, .inl (G 1, 7, .inl (zA v_p0_dNeed)))] H → va_D A [(a_p0, .inr (12, [.ref a_p0_st, .ref a_p0_isKept, .int (Int32.ofInt z4), .int (Int32.ofInt z5), .ref a_p0_brings, .ref a_p0_need, .ref a_p0_draft, .int (Int32.ofInt i_p0_dSeats), .int (Int32.ofInt i_p0_dStirs), .ref a_p0_dStir, .ref a_p0_dNeed, .int (Int32.ofInt i_p0_told), .int (Int32.ofInt i_p0_highest), .ref a_p0_tape, .int (Int32.ofInt i_p0_taped), .int (Int32.ofInt i_p0_pos), .int (Int32.ofInt i_p0_from), .int (Int32.ofInt i_p0_sort), .int (Int32.ofInt i_p0_value), .int (Int32.ofInt i_p0_fault), .int (Int32.ofInt i_p0_wrongAt), .ref a_p0_places, .ref a_p0_stirred, .ref a_p0_ways, .ref a_p0_waysThen, .ref a_p0_stays, .ref a_p0_fewest, .ref a_p0_bowls, .ref a_p0_has, .ref a_p0_goesOn, .ref a_p0_isThere, .ref a_p0_isThereThen, .ref a_p0_bestRow, .ref a_p0_lanes, .ref a_p0_sizes, .ref a_p0_cells, .int (Int32.ofInt i_p0_torn)])), (a_p0_st, .inl (G 1, 152, .inl (zA w2))), (a_p0_isKept, .inl (G 3, 2, .inl (zA v_p0_isKept))), (a_p0_brings, .inl (G 1, 35, .inl (zA v_p0_brings))), (a_p0_need, .inl (G 1, 7, .inl (zA w30))), (a_p0_draft, .inl (G 1, 38, .inl (zA v_p0_draft))), (a_p0_dStir, .inl (G 1, 15, .inl (zA v_p0_dStir))), (a_p0_dNeed, .inl (G 1, 7, .inl (zA v_p0_dNeed)))] → va_S A s.heap H locs → lq2 B31 n z29 w30 = some (o_i_p0_seats, o_i_p0_stirs, o_v_p0_st, o_v_p0_isKept, o_v_p0_brings, o_v_p0_need) → W p l e rm_X12_keepDraft s m ([.ref a_p0] : List Value).toArray below meth c H locs 0 0 Q (F0 m 44 ls []) := by
      clear hf hl hP hD hS
      intro n
      induction n with
      | zero =>
        intro z29 w30 ls H locs hl hP hD hS hf
        exact (lq2_0 hf).elim
      | succ n ih44 =>
        intro z29 w30 ls H locs hl hP hD hS hf
        replace hf := lq2_s eB31 hf
        unfold B_X12_keepDraft_44 at hf
        refine lv_iload_n hx hb dX12_keepDraft_44 rfl (lv_at hl 0 rfl) ?_
        refine lv_bipush (v := Int32.ofInt (7 : Int)) hx hb dX12_keepDraft_45 (by decide) ?_
        have hr31 := ck_c hf
        replace hf := ck_r hf
        refine lv_icmp_ge (tgt := 68) hx hb dX12_keepDraft_47 (by decide) (fun cc => ?_) (fun cc => ?_)
        ·
          replace hf := ite_t ((z_le (by decide) hr31).mp cc) hf
          clear cc
          exact hJ8 _ _ _ _ (lv_sub hl [1] rfl) hP hD hS hf
        ·
          replace hf := ite_f (fun h9 => cc ((z_le (by decide) hr31).mpr h9)) hf
          clear cc
          refine lv_aload_n hx hb dX12_keepDraft_50 rfl (lv_at hl 1 rfl) ?_
          refine va_get (D := D) (ci := 12) (v := .ref a_p0_need) (C := RX12) (T := TX12) (N := 37) hx hb hts inX12_keepDraft_X12 hown hK hP 0 rfl rfl 5 (by decide) (hts _ mwX12_keepDraft_8) (fun _ h9 => h9) rfl dX12_keepDraft_51 ?_
          refine lv_iload_n hx hb dX12_keepDraft_54 rfl (lv_at hl 0 rfl) ?_
          refine lv_aload_n hx hb dX12_keepDraft_55 rfl (lv_at hl 1 rfl) ?_
          refine va_get (D := D) (ci := 12) (v := .ref a_p0_dNeed) (C := RX12) (T := TX12) (N := 37) hx hb hts inX12_keepDraft_X12 hown hK hP 0 rfl rfl 10 (by decide) (hts _ mwX12_keepDraft_9) (fun _ h9 => h9) rfl dX12_keepDraft_56 ?_
          refine lv_iload_n hx hb dX12_keepDraft_59 rfl (lv_at hl 0 rfl) ?_
          have hc := ck_c hf
          replace hf := ck_r hf
          refine va_iald hx hb hK hP 7 1 rfl rfl (z_ix_in hc) dX12_keepDraft_60 (z_ci (z_ald v_p0_dNeed hc) ?_)
          clear hc
          have hc := ck_c hf
          replace hf := ck_r hf
          refine zs_iast (wf := fun w33 => [(a_p0, .inr (12, [.ref a_p0_st, .ref a_p0_isKept, .int (Int32.ofInt z4), .int (Int32.ofInt z5), .ref a_p0_brings, .ref a_p0_need, .ref a_p0_draft, .int (Int32.ofInt i_p0_dSeats), .int (Int32.ofInt i_p0_dStirs), .ref a_p0_dStir, .ref a_p0_dNeed, .int (Int32.ofInt i_p0_told), .int (Int32.ofInt i_p0_highest), .ref a_p0_tape, .int (Int32.ofInt i_p0_taped), .int (Int32.ofInt i_p0_pos), .int (Int32.ofInt i_p0_from), .int (Int32.ofInt i_p0_sort), .int (Int32.ofInt i_p0_value), .int (Int32.ofInt i_p0_fault), .int (Int32.ofInt i_p0_wrongAt), .ref a_p0_places, .ref a_p0_stirred, .ref a_p0_ways, .ref a_p0_waysThen, .ref a_p0_stays, .ref a_p0_fewest, .ref a_p0_bowls, .ref a_p0_has, .ref a_p0_goesOn, .ref a_p0_isThere, .ref a_p0_isThereThen, .ref a_p0_bestRow, .ref a_p0_lanes, .ref a_p0_sizes, .ref a_p0_cells, .int (Int32.ofInt i_p0_torn)])), (a_p0_st, .inl (G 1, 152, .inl (zA w2))), (a_p0_isKept, .inl (G 3, 2, .inl (zA v_p0_isKept))), (a_p0_brings, .inl (G 1, 35, .inl (zA v_p0_brings))), (a_p0_need, .inl (G 1, 7, .inl (zA w33))), (a_p0_draft, .inl (G 1, 38, .inl (zA v_p0_draft))), (a_p0_dStir, .inl (G 1, 15, .inl (zA v_p0_dStir))), (a_p0_dNeed, .inl (G 1, 7, .inl (zA v_p0_dNeed)))]) hx hb hK hP hD hS 4 1 rfl rfl hc dX12_keepDraft_61 (fun _ => rfl) (fun w33 ez H locs hP hD hS => ?_)
          replace hf := bnd_s hf ez
          clear ez hc
          obtain ⟨z34, ez⟩ : ∃ y : Int, y = (z29 + (1 : Int)) := ⟨_, rfl⟩
          replace hf := bnd_s hf ez
          refine lv_iinc (v := Int32.ofInt z34) (lv' := [(1, .int (Int32.ofInt z34)), (0, .ref a_p0)]) hx hb dX12_keepDraft_62 hl (k := 0) rfl (by rw [ez]; exact (Int32.ofInt_add _ _).symm) (by decide) rfl (fun ls hl => ?_)
          clear ez
          refine lv_goto (tgt := 44) hx hb dX12_keepDraft_65 (by decide) ?_
          exact ih44 _ _ _ _ _ (lv_sub hl [0, 1] rfl) hP hD hS hf
    exact hB31 _ _ _ _ _ _ (lv_sub hl [0, 1] rfl) hP hD hS hf
  have hq := lq2_i hf
  clear hf
  obtain ⟨B37, eB37, NB37, hf⟩ := hq
  have hB37 : ∀ (n : Nat) (z35 : Int) (w36 : (Int → Int)) (ls : Array Slot) (H : Heap) (locs : List Loc), lv_has ls 3 [(1, .int (Int32.ofInt z35)), (0, .ref a_p0)] → va_P D vwCl [(a_p0, .inr (12, [.ref a_p0_st, .ref a_p0_isKept, .int (Int32.ofInt i_p0_seats), .int (Int32.ofInt i_p0_stirs), .ref a_p0_brings, .ref a_p0_need, .ref a_p0_draft, .int (Int32.ofInt i_p0_dSeats), .int (Int32.ofInt i_p0_dStirs), .ref a_p0_dStir, .ref a_p0_dNeed, .int (Int32.ofInt i_p0_told), .int (Int32.ofInt i_p0_highest), .ref a_p0_tape, .int (Int32.ofInt i_p0_taped), .int (Int32.ofInt i_p0_pos), .int (Int32.ofInt i_p0_from), .int (Int32.ofInt i_p0_sort), .int (Int32.ofInt i_p0_value), .int (Int32.ofInt i_p0_fault), .int (Int32.ofInt i_p0_wrongAt), .ref a_p0_places, .ref a_p0_stirred, .ref a_p0_ways, .ref a_p0_waysThen, .ref a_p0_stays, .ref a_p0_fewest, .ref a_p0_bowls, .ref a_p0_has, .ref a_p0_goesOn, .ref a_p0_isThere, .ref a_p0_isThereThen, .ref a_p0_bestRow, .ref a_p0_lanes, .ref a_p0_sizes, .ref a_p0_cells, .int (Int32.ofInt i_p0_torn)])), (a_p0_st, .inl (G 1, 152, .inl (zA w36))), (a_p0_isKept, .inl (G 3, 2, .inl (zA v_p0_isKept))), (a_p0_brings, .inl (G 1, 35, .inl (zA v_p0_brings))), (a_p0_need, .inl (G 1, 7, .inl (zA v_p0_need))), (a_p0_draft, .inl (G 1, 38, .inl (zA v_p0_draft))), (a_p0_dStir, .inl (G 1, 15, .inl (zA v_p0_dStir))), (a_p0_dNeed, .inl (G 1, 7, .inl (zA v_p0_dNeed)))] H → va_D A [(a_p0, .inr (12, [.ref a_p0_st, .ref a_p0_isKept, .int (Int32.ofInt i_p0_seats), .int (Int32.ofInt i_p0_stirs), .ref a_p0_brings, .ref a_p0_need, .ref a_p0_draft, .int (Int32.ofInt i_p0_dSeats), .int (Int32.ofInt i_p0_dStirs), .ref a_p0_dStir, .ref a_p0_dNeed, .int (Int32.ofInt i_p0_told), .int (Int32.ofInt i_p0_highest), .ref a_p0_tape, .int (Int32.ofInt i_p0_taped), .int (Int32.ofInt i_p0_pos), .int (Int32.ofInt i_p0_from), .int (Int32.ofInt i_p0_sort), .int (Int32.ofInt i_p0_value), .int (Int32.ofInt i_p0_fault), .int (Int32.ofInt i_p0_wrongAt), .ref a_p0_places, .ref a_p0_stirred, .ref a_p0_ways, .ref a_p0_waysThen, .ref a_p0_stays, .ref a_p0_fewest, .ref a_p0_bowls, .ref a_p0_has, .ref a_p0_goesOn, .ref a_p0_isThere, .ref a_p0_isThereThen, .ref a_p0_bestRow, .ref a_p0_lanes, .ref a_p0_sizes, .ref a_p0_cells, .int (Int32.ofInt i_p0_torn)])), (a_p0_st, .inl (G 1, 152, .inl (zA w36))), (a_p0_isKept, .inl (G 3, 2, .inl (zA v_p0_isKept))), (a_p0_brings, .inl (G 1, 35, .inl (zA v_p0_brings))), (a_p0_need, .inl (G 1, 7, .inl (zA v_p0_need))), (a_p0_draft, .inl (G 1, 38, .inl (zA v_p0_draft))), (a_p0_dStir, .inl (G 1, 15, .inl (zA v_p0_dStir))), (a_p0_dNeed, .inl (G 1, 7, .inl (zA v_p0_dNeed)))] → va_S A s.heap H locs → lq2 B37 n z35 w36 = some (o_i_p0_seats, o_i_p0_stirs, o_v_p0_st, o_v_p0_isKept, o_v_p0_brings, o_v_p0_need) → W p l e rm_X12_keepDraft s m ([.ref a_p0] : List Value).toArray below meth c H locs 0 0 Q (F0 m 2 ls []) := by
    clear hf hl hP hD hS
    intro n
    induction n with
    | zero =>
      intro z35 w36 ls H locs hl hP hD hS hf
      exact (lq2_0 hf).elim
    | succ n ih2 =>
      intro z35 w36 ls H locs hl hP hD hS hf
      replace hf := lq2_s eB37 hf
      unfold B_X12_keepDraft_2 at hf
      refine lv_iload_n hx hb dX12_keepDraft_2 rfl (lv_at hl 0 rfl) ?_
      refine lv_bipush (v := Int32.ofInt (38 : Int)) hx hb dX12_keepDraft_3 (by decide) ?_
      have hr37 := ck_c hf
      replace hf := ck_r hf
      refine lv_icmp_ge (tgt := 26) hx hb dX12_keepDraft_5 (by decide) (fun cc => ?_) (fun cc => ?_)
      ·
        replace hf := ite_t ((z_le (by decide) hr37).mp cc) hf
        clear cc
        exact hJ3 _ _ _ _ (lv_sub hl [1] rfl) hP hD hS hf
      ·
        replace hf := ite_f (fun h9 => cc ((z_le (by decide) hr37).mpr h9)) hf
        clear cc
        refine lv_aload_n hx hb dX12_keepDraft_8 rfl (lv_at hl 1 rfl) ?_
        refine va_get (D := D) (ci := 12) (v := .ref a_p0_st) (C := RX12) (T := TX12) (N := 37) hx hb hts inX12_keepDraft_X12 hown hK hP 0 rfl rfl 0 (by decide) (hts _ mwX12_keepDraft_10) (fun _ h9 => h9) rfl dX12_keepDraft_9 ?_
        refine lv_iload_n hx hb dX12_keepDraft_12 rfl (lv_at hl 0 rfl) ?_
        refine lv_aload_n hx hb dX12_keepDraft_13 rfl (lv_at hl 1 rfl) ?_
        refine va_get (D := D) (ci := 12) (v := .ref a_p0_draft) (C := RX12) (T := TX12) (N := 37) hx hb hts inX12_keepDraft_X12 hown hK hP 0 rfl rfl 6 (by decide) (hts _ mwX12_keepDraft_11) (fun _ h9 => h9) rfl dX12_keepDraft_14 ?_
        refine lv_iload_n hx hb dX12_keepDraft_17 rfl (lv_at hl 0 rfl) ?_
        have hc := ck_c hf
        replace hf := ck_r hf
        refine va_iald hx hb hK hP 5 1 rfl rfl (z_ix_in hc) dX12_keepDraft_18 (z_ci (z_ald v_p0_draft hc) ?_)
        clear hc
        have hc := ck_c hf
        replace hf := ck_r hf
        refine zs_iast (wf := fun w39 => [(a_p0, .inr (12, [.ref a_p0_st, .ref a_p0_isKept, .int (Int32.ofInt i_p0_seats), .int (Int32.ofInt i_p0_stirs), .ref a_p0_brings, .ref a_p0_need, .ref a_p0_draft, .int (Int32.ofInt i_p0_dSeats), .int (Int32.ofInt i_p0_dStirs), .ref a_p0_dStir, .ref a_p0_dNeed, .int (Int32.ofInt i_p0_told), .int (Int32.ofInt i_p0_highest), .ref a_p0_tape, .int (Int32.ofInt i_p0_taped), .int (Int32.ofInt i_p0_pos), .int (Int32.ofInt i_p0_from), .int (Int32.ofInt i_p0_sort), .int (Int32.ofInt i_p0_value), .int (Int32.ofInt i_p0_fault), .int (Int32.ofInt i_p0_wrongAt), .ref a_p0_places, .ref a_p0_stirred, .ref a_p0_ways, .ref a_p0_waysThen, .ref a_p0_stays, .ref a_p0_fewest, .ref a_p0_bowls, .ref a_p0_has, .ref a_p0_goesOn, .ref a_p0_isThere, .ref a_p0_isThereThen, .ref a_p0_bestRow, .ref a_p0_lanes, .ref a_p0_sizes, .ref a_p0_cells, .int (Int32.ofInt i_p0_torn)])), (a_p0_st, .inl (G 1, 152, .inl (zA w39))), (a_p0_isKept, .inl (G 3, 2, .inl (zA v_p0_isKept))), (a_p0_brings, .inl (G 1, 35, .inl (zA v_p0_brings))), (a_p0_need, .inl (G 1, 7, .inl (zA v_p0_need))), (a_p0_draft, .inl (G 1, 38, .inl (zA v_p0_draft))), (a_p0_dStir, .inl (G 1, 15, .inl (zA v_p0_dStir))), (a_p0_dNeed, .inl (G 1, 7, .inl (zA v_p0_dNeed)))]) hx hb hK hP hD hS 1 1 rfl rfl hc dX12_keepDraft_19 (fun _ => rfl) (fun w39 ez H locs hP hD hS => ?_)
        replace hf := bnd_s hf ez
        clear ez hc
        obtain ⟨z40, ez⟩ : ∃ y : Int, y = (z35 + (1 : Int)) := ⟨_, rfl⟩
        replace hf := bnd_s hf ez
        refine lv_iinc (v := Int32.ofInt z40) (lv' := [(1, .int (Int32.ofInt z40)), (0, .ref a_p0)]) hx hb dX12_keepDraft_20 hl (k := 0) rfl (by rw [ez]; exact (Int32.ofInt_add _ _).symm) (by decide) rfl (fun ls hl => ?_)
        clear ez
        refine lv_goto (tgt := 2) hx hb dX12_keepDraft_23 (by decide) ?_
        exact ih2 _ _ _ _ _ (lv_sub hl [0, 1] rfl) hP hD hS hf
  exact hB37 _ _ _ _ _ _ (lv_sub hl [0, 1] rfl) hP hD hS hf

noncomputable def B_X12_feed_19 (x1 : Int) (again19 : Int → Int → (Int → Int) → Option (Int × Int × (Int → Int))) (z3 : Int) (z4 : Int) (w5 : (Int → Int)) : Option (Int × Int × (Int → Int)) := (ck (z_r32 z3) (if z3 < (0 : Int) then (some (z4, z4, w5)) else (ck (z_ix z4 320) (bnd (z_up w5 z4 (w_and (w_shr x1 z3) (255 : Int))) (fun (w8 : (Int → Int)) => (bnd (z4 + (1 : Int)) (fun (z9 : Int) => (bnd (z3 + (-8 : Int)) (fun (z10 : Int) => (again19 z10 z9 w8))))))))))
noncomputable def f_X12_feed (i_p0_taped : Int) (v_p0_tape : (Int → Int)) (x1 : Int) : Option (Int × Int × (Int → Int)) := (ck (z_r32 (i_p0_taped + (8 : Int))) (if (i_p0_taped + (8 : Int)) ≤ (320 : Int) then (bnd (56 : Int) (fun (z2 : Int) => (lq3 (B_X12_feed_19 x1) 1000 z2 i_p0_taped v_p0_tape))) else (some ((-3 : Int), i_p0_taped, v_p0_tape))))
abbrev rm_X12_feed : Room := { frames := 0, cells := 0, slots := 0, locals := 0 }
theorem inX12_feed_X12 : ∀ w ∈ wsX120, w ∈ wsX12_feed := by first | exact fun w h => List.mem_cons_of_mem _ (List.mem_append_right _ h) | decide +kernel
theorem mwX12_feed_1 : Cond.fieldLink RX12 110 "LadleKingsModel" "taped" "I" ∈ wsX12_feed := by first | exact List.mem_of_getElem? (i := 1) rfl | decide +kernel
theorem mwX12_feed_2 : Cond.fieldLink RX12 32 "LadleKingsModel" "tape" "[I" ∈ wsX12_feed := by first | exact List.mem_of_getElem? (i := 2) rfl | decide +kernel
theorem mwX12_feed_3 : Cond.constantLong RX12 113 (255) ∈ wsX12_feed := by first | exact List.mem_of_getElem? (i := 3) rfl | decide +kernel
set_option maxHeartbeats 8000000 in
set_option maxRecDepth 100000 in
theorem c_X12_feed (l : Launch) (D : va_G) (G : Nat → ClassId) (sz : Nat) (a_p0 : Nat) (a_p0_st : Nat) (a_p0_isKept : Nat) (a_p0_brings : Nat) (a_p0_need : Nat) (a_p0_draft : Nat) (a_p0_dStir : Nat) (a_p0_dNeed : Nat) (a_p0_tape : Nat) (a_p0_places : Nat) (a_p0_stirred : Nat) (a_p0_ways : Nat) (a_p0_waysThen : Nat) (a_p0_stays : Nat) (a_p0_fewest : Nat) (a_p0_bowls : Nat) (a_p0_has : Nat) (a_p0_goesOn : Nat) (a_p0_isThere : Nat) (a_p0_isThereThen : Nat) (a_p0_bestRow : Nat) (a_p0_lanes : Nat) (a_p0_sizes : Nat) (a_p0_cells : Nat) (i_p0_seats : Int) (i_p0_stirs : Int) (i_p0_dSeats : Int) (i_p0_dStirs : Int) (i_p0_told : Int) (i_p0_highest : Int) (i_p0_taped : Int) (i_p0_pos : Int) (i_p0_from : Int) (i_p0_sort : Int) (i_p0_value : Int) (i_p0_fault : Int) (i_p0_wrongAt : Int) (i_p0_torn : Int) (v_p0_tape : (Int → Int)) (x1 : Int) (r : Int) (o_i_p0_taped : Int) (o_v_p0_tape : (Int → Int)) (hf : f_X12_feed i_p0_taped v_p0_tape x1 = some (r, o_i_p0_taped, o_v_p0_tape)) : Met l yX12_feed wsX12_feed rm_X12_feed (pcG D G [.ref a_p0, .long (Int64.ofInt x1)] sz [(a_p0, .inr (12, [.ref a_p0_st, .ref a_p0_isKept, .int (Int32.ofInt i_p0_seats), .int (Int32.ofInt i_p0_stirs), .ref a_p0_brings, .ref a_p0_need, .ref a_p0_draft, .int (Int32.ofInt i_p0_dSeats), .int (Int32.ofInt i_p0_dStirs), .ref a_p0_dStir, .ref a_p0_dNeed, .int (Int32.ofInt i_p0_told), .int (Int32.ofInt i_p0_highest), .ref a_p0_tape, .int (Int32.ofInt i_p0_taped), .int (Int32.ofInt i_p0_pos), .int (Int32.ofInt i_p0_from), .int (Int32.ofInt i_p0_sort), .int (Int32.ofInt i_p0_value), .int (Int32.ofInt i_p0_fault), .int (Int32.ofInt i_p0_wrongAt), .ref a_p0_places, .ref a_p0_stirred, .ref a_p0_ways, .ref a_p0_waysThen, .ref a_p0_stays, .ref a_p0_fewest, .ref a_p0_bowls, .ref a_p0_has, .ref a_p0_goesOn, .ref a_p0_isThere, .ref a_p0_isThereThen, .ref a_p0_bestRow, .ref a_p0_lanes, .ref a_p0_sizes, .ref a_p0_cells, .int (Int32.ofInt i_p0_torn)])), (a_p0_tape, .inl (G 1, 320, .inl (zA v_p0_tape)))]) (qcI D G (Int32.ofInt r) [(a_p0, .inr (12, [.ref a_p0_st, .ref a_p0_isKept, .int (Int32.ofInt i_p0_seats), .int (Int32.ofInt i_p0_stirs), .ref a_p0_brings, .ref a_p0_need, .ref a_p0_draft, .int (Int32.ofInt i_p0_dSeats), .int (Int32.ofInt i_p0_dStirs), .ref a_p0_dStir, .ref a_p0_dNeed, .int (Int32.ofInt i_p0_told), .int (Int32.ofInt i_p0_highest), .ref a_p0_tape, .int (Int32.ofInt o_i_p0_taped), .int (Int32.ofInt i_p0_pos), .int (Int32.ofInt i_p0_from), .int (Int32.ofInt i_p0_sort), .int (Int32.ofInt i_p0_value), .int (Int32.ofInt i_p0_fault), .int (Int32.ofInt i_p0_wrongAt), .ref a_p0_places, .ref a_p0_stirred, .ref a_p0_ways, .ref a_p0_waysThen, .ref a_p0_stays, .ref a_p0_fewest, .ref a_p0_bowls, .ref a_p0_has, .ref a_p0_goesOn, .ref a_p0_isThere, .ref a_p0_isThereThen, .ref a_p0_bestRow, .ref a_p0_lanes, .ref a_p0_sizes, .ref a_p0_cells, .int (Int32.ofInt i_p0_torn)])), (a_p0_tape, .inl (G 1, 320, .inl (zA o_v_p0_tape)))] (va_A [(a_p0, .inr (12, [.ref a_p0_st, .ref a_p0_isKept, .int (Int32.ofInt i_p0_seats), .int (Int32.ofInt i_p0_stirs), .ref a_p0_brings, .ref a_p0_need, .ref a_p0_draft, .int (Int32.ofInt i_p0_dSeats), .int (Int32.ofInt i_p0_dStirs), .ref a_p0_dStir, .ref a_p0_dNeed, .int (Int32.ofInt i_p0_told), .int (Int32.ofInt i_p0_highest), .ref a_p0_tape, .int (Int32.ofInt i_p0_taped), .int (Int32.ofInt i_p0_pos), .int (Int32.ofInt i_p0_from), .int (Int32.ofInt i_p0_sort), .int (Int32.ofInt i_p0_value), .int (Int32.ofInt i_p0_fault), .int (Int32.ofInt i_p0_wrongAt), .ref a_p0_places, .ref a_p0_stirred, .ref a_p0_ways, .ref a_p0_waysThen, .ref a_p0_stays, .ref a_p0_fewest, .ref a_p0_bowls, .ref a_p0_has, .ref a_p0_goesOn, .ref a_p0_isThere, .ref a_p0_isThereThen, .ref a_p0_bestRow, .ref a_p0_lanes, .ref a_p0_sizes, .ref a_p0_cells, .int (Int32.ofInt i_p0_torn)])), (a_p0_tape, .inl (G 1, 320, .inl (zA v_p0_tape)))] sz)) 0 0 (va_A [(a_p0, .inr (12, [.ref a_p0_st, .ref a_p0_isKept, .int (Int32.ofInt i_p0_seats), .int (Int32.ofInt i_p0_stirs), .ref a_p0_brings, .ref a_p0_need, .ref a_p0_draft, .int (Int32.ofInt i_p0_dSeats), .int (Int32.ofInt i_p0_dStirs), .ref a_p0_dStir, .ref a_p0_dNeed, .int (Int32.ofInt i_p0_told), .int (Int32.ofInt i_p0_highest), .ref a_p0_tape, .int (Int32.ofInt i_p0_taped), .int (Int32.ofInt i_p0_pos), .int (Int32.ofInt i_p0_from), .int (Int32.ofInt i_p0_sort), .int (Int32.ofInt i_p0_value), .int (Int32.ofInt i_p0_fault), .int (Int32.ofInt i_p0_wrongAt), .ref a_p0_places, .ref a_p0_stirred, .ref a_p0_ways, .ref a_p0_waysThen, .ref a_p0_stays, .ref a_p0_fewest, .ref a_p0_bowls, .ref a_p0_has, .ref a_p0_goesOn, .ref a_p0_isThere, .ref a_p0_isThereThen, .ref a_p0_bestRow, .ref a_p0_lanes, .ref a_p0_sizes, .ref a_p0_cells, .int (Int32.ofInt i_p0_torn)])), (a_p0_tape, .inl (G 1, 320, .inl (zA v_p0_tape)))] sz) := by
  refine Met.ofW (cc := cX12_feed) (maxL := 4) (ret := (some .int)) (by decide) rfl ?_
  intro p e s m args below meth c s₁ B hml hv
  obtain ⟨rfl, hsz, hP, hK, hD0⟩ := hv
  have hx := B.exec
  have hb := B.bytes
  have hr := B.returns
  have hts := atoms_spec (ws := wsX12_feed) B.pre
  have hown : s.vm.findClass RX12 = some m.cls := findClass_of_methodNamed B.named
  have hlocks := B.notSynchronized
  subst hsz
  have hD := hD0.self (sz := s.heap.size)
  generalize hAe : va_A [(a_p0, .inr (12, [.ref a_p0_st, .ref a_p0_isKept, .int (Int32.ofInt i_p0_seats), .int (Int32.ofInt i_p0_stirs), .ref a_p0_brings, .ref a_p0_need, .ref a_p0_draft, .int (Int32.ofInt i_p0_dSeats), .int (Int32.ofInt i_p0_dStirs), .ref a_p0_dStir, .ref a_p0_dNeed, .int (Int32.ofInt i_p0_told), .int (Int32.ofInt i_p0_highest), .ref a_p0_tape, .int (Int32.ofInt i_p0_taped), .int (Int32.ofInt i_p0_pos), .int (Int32.ofInt i_p0_from), .int (Int32.ofInt i_p0_sort), .int (Int32.ofInt i_p0_value), .int (Int32.ofInt i_p0_fault), .int (Int32.ofInt i_p0_wrongAt), .ref a_p0_places, .ref a_p0_stirred, .ref a_p0_ways, .ref a_p0_waysThen, .ref a_p0_stays, .ref a_p0_fewest, .ref a_p0_bowls, .ref a_p0_has, .ref a_p0_goesOn, .ref a_p0_isThere, .ref a_p0_isThereThen, .ref a_p0_bestRow, .ref a_p0_lanes, .ref a_p0_sizes, .ref a_p0_cells, .int (Int32.ofInt i_p0_torn)])), (a_p0_tape, .inl (G 1, 320, .inl (zA v_p0_tape)))] s.heap.size = A at hD ⊢
  have hA : ∀ q : Nat, s.heap.size ≤ q → A q := fun q h => by rw [← hAe]; exact Or.inr h
  clear hAe hD0
  have hS : va_S A s.heap s.heap [] := va_S.rf
  have hl := lv_entry ([.ref a_p0, .long (Int64.ofInt x1)]) (n := 4) (Nat.le_of_ble_eq_true rfl)
  rw [lg_entry_eq]
  generalize (lg_sl ([.ref a_p0, .long (Int64.ofInt x1)]) ++ List.replicate (4 - (lg_sl ([.ref a_p0, .long (Int64.ofInt x1)])).length) Slot.unset).toArray = ls at hl ⊢
  have hl : lv_has ls 4 [(0, .ref a_p0), (1, .long (Int64.ofInt x1))] := hl
  refine W_nameQ (fun Q hQ => ?_)
  obtain ⟨H, hH⟩ : ∃ H, H = s.heap := ⟨_, rfl⟩
  replace hS : va_S A s.heap H [] := by rw [hH]; exact hS
  replace hP : va_P D vwCl [(a_p0, .inr (12, [.ref a_p0_st, .ref a_p0_isKept, .int (Int32.ofInt i_p0_seats), .int (Int32.ofInt i_p0_stirs), .ref a_p0_brings, .ref a_p0_need, .ref a_p0_draft, .int (Int32.ofInt i_p0_dSeats), .int (Int32.ofInt i_p0_dStirs), .ref a_p0_dStir, .ref a_p0_dNeed, .int (Int32.ofInt i_p0_told), .int (Int32.ofInt i_p0_highest), .ref a_p0_tape, .int (Int32.ofInt i_p0_taped), .int (Int32.ofInt i_p0_pos), .int (Int32.ofInt i_p0_from), .int (Int32.ofInt i_p0_sort), .int (Int32.ofInt i_p0_value), .int (Int32.ofInt i_p0_fault), .int (Int32.ofInt i_p0_wrongAt), .ref a_p0_places, .ref a_p0_stirred, .ref a_p0_ways, .ref a_p0_waysThen, .ref a_p0_stays, .ref a_p0_fewest, .ref a_p0_bowls, .ref a_p0_has, .ref a_p0_goesOn, .ref a_p0_isThere, .ref a_p0_isThereThen, .ref a_p0_bestRow, .ref a_p0_lanes, .ref a_p0_sizes, .ref a_p0_cells, .int (Int32.ofInt i_p0_torn)])), (a_p0_tape, .inl (G 1, 320, .inl (zA v_p0_tape)))] H := by rw [hH]; exact hP
  rw [← hH]
  clear hH
  unfold f_X12_feed at hf
  refine lv_aload_n hx hb dX12_feed_0 rfl (lv_at hl 0 rfl) ?_
  refine va_get (D := D) (ci := 12) (v := .int (Int32.ofInt i_p0_taped)) (C := RX12) (T := TX12) (N := 37) hx hb hts inX12_feed_X12 hown hK hP 0 rfl rfl 14 (by decide) (hts _ mwX12_feed_1) (fun _ h9 => h9) rfl dX12_feed_1 ?_
  refine lv_bipush (v := Int32.ofInt (8 : Int)) hx hb dX12_feed_4 (by decide) ?_
  refine lv_iadd hx hb dX12_feed_6 (z_ci (Int32.ofInt_add i_p0_taped (8 : Int)) ?_)
  refine lv_sipush (v := Int32.ofInt (320 : Int)) hx hb dX12_feed_7 (by decide) ?_
  have hr0 := ck_c hf
  replace hf := ck_r hf
  refine lv_icmp_le (tgt := 16) hx hb dX12_feed_10 (by decide) (fun cc => ?_) (fun cc => ?_)
  ·
    replace hf := ite_t ((z_le hr0 (by decide)).mp cc) hf
    clear cc
    refine lv_bipush (v := Int32.ofInt (56 : Int)) hx hb dX12_feed_16 (by decide) ?_
    refine z_topi (fun z2 ez => ?_)
    replace hf := bnd_s hf ez
    clear ez
    refine lv_istore_n (lv' := [(3, .int (Int32.ofInt z2)), (0, .ref a_p0), (1, .long (Int64.ofInt x1))]) hx hb dX12_feed_18 rfl hl (by decide) rfl (fun ls hl => ?_)
    have hq := lq3_i hf
    clear hf
    obtain ⟨B6, eB6, NB6, hf⟩ := hq
    have hB6 : ∀ (n : Nat) (z3 : Int) (z4 : Int) (w5 : (Int → Int)) (ls : Array Slot) (H : Heap) (locs : List Loc), lv_has ls 4 [(3, .int (Int32.ofInt z3)), (0, .ref a_p0), (1, .long (Int64.ofInt x1))] → va_P D vwCl [(a_p0, .inr (12, [.ref a_p0_st, .ref a_p0_isKept, .int (Int32.ofInt i_p0_seats), .int (Int32.ofInt i_p0_stirs), .ref a_p0_brings, .ref a_p0_need, .ref a_p0_draft, .int (Int32.ofInt i_p0_dSeats), .int (Int32.ofInt i_p0_dStirs), .ref a_p0_dStir, .ref a_p0_dNeed, .int (Int32.ofInt i_p0_told), .int (Int32.ofInt i_p0_highest), .ref a_p0_tape, .int (Int32.ofInt z4), .int (Int32.ofInt i_p0_pos), .int (Int32.ofInt i_p0_from), .int (Int32.ofInt i_p0_sort), .int (Int32.ofInt i_p0_value), .int (Int32.ofInt i_p0_fault), .int (Int32.ofInt i_p0_wrongAt), .ref a_p0_places, .ref a_p0_stirred, .ref a_p0_ways, .ref a_p0_waysThen, .ref a_p0_stays, .ref a_p0_fewest, .ref a_p0_bowls, .ref a_p0_has, .ref a_p0_goesOn, .ref a_p0_isThere, .ref a_p0_isThereThen, .ref a_p0_bestRow, .ref a_p0_lanes, .ref a_p0_sizes, .ref a_p0_cells, .int (Int32.ofInt i_p0_torn)])), (a_p0_tape, .inl (G 1, 320, .inl (zA w5)))] H → va_D A [(a_p0, .inr (12, [.ref a_p0_st, .ref a_p0_isKept, .int (Int32.ofInt i_p0_seats), .int (Int32.ofInt i_p0_stirs), .ref a_p0_brings, .ref a_p0_need, .ref a_p0_draft, .int (Int32.ofInt i_p0_dSeats), .int (Int32.ofInt i_p0_dStirs), .ref a_p0_dStir, .ref a_p0_dNeed, .int (Int32.ofInt i_p0_told), .int (Int32.ofInt i_p0_highest), .ref a_p0_tape, .int (Int32.ofInt z4), .int (Int32.ofInt i_p0_pos), .int (Int32.ofInt i_p0_from), .int (Int32.ofInt i_p0_sort), .int (Int32.ofInt i_p0_value), .int (Int32.ofInt i_p0_fault), .int (Int32.ofInt i_p0_wrongAt), .ref a_p0_places, .ref a_p0_stirred, .ref a_p0_ways, .ref a_p0_waysThen, .ref a_p0_stays, .ref a_p0_fewest, .ref a_p0_bowls, .ref a_p0_has, .ref a_p0_goesOn, .ref a_p0_isThere, .ref a_p0_isThereThen, .ref a_p0_bestRow, .ref a_p0_lanes, .ref a_p0_sizes, .ref a_p0_cells, .int (Int32.ofInt i_p0_torn)])), (a_p0_tape, .inl (G 1, 320, .inl (zA w5)))] → va_S A s.heap H locs → lq3 B6 n z3 z4 w5 = some (r, o_i_p0_taped, o_v_p0_tape) → W p l e rm_X12_feed s m ([.ref a_p0, .long (Int64.ofInt x1)] : List Value).toArray below meth c H locs 0 0 Q (F0 m 19 ls []) := by
      clear hf hl hP hD hS
      intro n
      induction n with
      | zero =>
        intro z3 z4 w5 ls H locs hl hP hD hS hf
        exact (lq3_0 hf).elim
      | succ n ih19 =>
        intro z3 z4 w5 ls H locs hl hP hD hS hf
        replace hf := lq3_s eB6 hf
        unfold B_X12_feed_19 at hf
        refine lv_iload_n hx hb dX12_feed_19 rfl (lv_at hl 0 rfl) ?_
        have hr6 := ck_c hf
        replace hf := ck_r hf
        refine lv_if_lt (tgt := 56) hx hb dX12_feed_20 (by decide) (fun cc => ?_) (fun cc => ?_)
        ·
          replace hf := ite_t ((z_lt0 hr6).mp cc) hf
          clear cc
          refine lv_aload_n hx hb dX12_feed_56 rfl (lv_at hl 1 rfl) ?_
          refine va_get (D := D) (ci := 12) (v := .int (Int32.ofInt z4)) (C := RX12) (T := TX12) (N := 37) hx hb hts inX12_feed_X12 hown hK hP 0 rfl rfl 14 (by decide) (hts _ mwX12_feed_1) (fun _ h9 => h9) rfl dX12_feed_57 ?_
          obtain ⟨rfl, rfl, rfl⟩ := ou3 hf
          rw [hQ]
          exact W.iret hx hb hr (fun t ht hW => ⟨⟨_, (), rfl, rfl, by rw [ht]; exact hP, va_K.moved hW.alike hK, hD⟩, hS.F ht⟩) hS.2.2 dX12_feed_60
        ·
          replace hf := ite_f (fun h9 => cc ((z_lt0 hr6).mpr h9)) hf
          clear cc
          refine lv_aload_n hx hb dX12_feed_23 rfl (lv_at hl 1 rfl) ?_
          refine va_get (D := D) (ci := 12) (v := .ref a_p0_tape) (C := RX12) (T := TX12) (N := 37) hx hb hts inX12_feed_X12 hown hK hP 0 rfl rfl 13 (by decide) (hts _ mwX12_feed_2) (fun _ h9 => h9) rfl dX12_feed_24 ?_
          refine lv_aload_n hx hb dX12_feed_27 rfl (lv_at hl 1 rfl) ?_
          refine va_get (D := D) (ci := 12) (v := .int (Int32.ofInt z4)) (C := RX12) (T := TX12) (N := 37) hx hb hts inX12_feed_X12 hown hK hP 0 rfl rfl 14 (by decide) (hts _ mwX12_feed_1) (fun _ h9 => h9) rfl dX12_feed_28 ?_
          refine lv_lload_n hx hb dX12_feed_31 rfl (lv_at hl 2 rfl) ?_
          refine lv_iload_n hx hb dX12_feed_32 rfl (lv_at hl 0 rfl) ?_
          refine lv_lshr (v := Int64.ofInt (w_shr x1 z3)) hx hb dX12_feed_33 (w_shr_e x1 z3).symm ?_
          refine lv_ldc2 (v := (255 : Int64)) hx hb hown (hts _ mwX12_feed_3) dX12_feed_34 (z_cl (show Int64.ofInt (255 : Int) = _ from by decide) ?_)
          refine lv_land hx hb dX12_feed_37 (z_cl (w_and_e (w_shr x1 z3) (255 : Int)) ?_)
          refine lv_l2i (v := Int32.ofInt (w_and (w_shr x1 z3) (255 : Int))) hx hb dX12_feed_38 Int64.toInt32_ofInt ?_
          have hc := ck_c hf
          replace hf := ck_r hf
          refine zs_iast (wf := fun w8 => [(a_p0, .inr (12, [.ref a_p0_st, .ref a_p0_isKept, .int (Int32.ofInt i_p0_seats), .int (Int32.ofInt i_p0_stirs), .ref a_p0_brings, .ref a_p0_need, .ref a_p0_draft, .int (Int32.ofInt i_p0_dSeats), .int (Int32.ofInt i_p0_dStirs), .ref a_p0_dStir, .ref a_p0_dNeed, .int (Int32.ofInt i_p0_told), .int (Int32.ofInt i_p0_highest), .ref a_p0_tape, .int (Int32.ofInt z4), .int (Int32.ofInt i_p0_pos), .int (Int32.ofInt i_p0_from), .int (Int32.ofInt i_p0_sort), .int (Int32.ofInt i_p0_value), .int (Int32.ofInt i_p0_fault), .int (Int32.ofInt i_p0_wrongAt), .ref a_p0_places, .ref a_p0_stirred, .ref a_p0_ways, .ref a_p0_waysThen, .ref a_p0_stays, .ref a_p0_fewest, .ref a_p0_bowls, .ref a_p0_has, .ref a_p0_goesOn, .ref a_p0_isThere, .ref a_p0_isThereThen, .ref a_p0_bestRow, .ref a_p0_lanes, .ref a_p0_sizes, .ref a_p0_cells, .int (Int32.ofInt i_p0_torn)])), (a_p0_tape, .inl (G 1, 320, .inl (zA w8)))]) hx hb hK hP hD hS 1 1 rfl rfl hc dX12_feed_39 (fun _ => rfl) (fun w8 ez H locs hP hD hS => ?_)
          replace hf := bnd_s hf ez
          clear ez hc
          refine lv_aload_n hx hb dX12_feed_40 rfl (lv_at hl 1 rfl) ?_
          refine lv_dup hx hb dX12_feed_41 rfl ?_
          refine va_get (D := D) (ci := 12) (v := .int (Int32.ofInt z4)) (C := RX12) (T := TX12) (N := 37) hx hb hts inX12_feed_X12 hown hK hP 0 rfl rfl 14 (by decide) (hts _ mwX12_feed_1) (fun _ h9 => h9) rfl dX12_feed_42 ?_
          refine lv_iconst (v := Int32.ofInt (1 : Int)) hx hb dX12_feed_45 (by decide) ?_
          refine lv_iadd hx hb dX12_feed_46 (z_ci (Int32.ofInt_add z4 (1 : Int)) ?_)
          refine z_topi (fun z9 ez => ?_)
          replace hf := bnd_s hf ez
          clear ez
          refine va_put (D := D) (ci := 12) (v := .int (Int32.ofInt z9)) (ty := .int) (C := RX12) (T := TX12) (N := 37) hx hb hts inX12_feed_X12 tyX12 tyX12_ok nmX12 hown hK hP hD hS 0 rfl rfl 14 (by decide) (hts _ mwX12_feed_1) (fun _ h9 => h9) rfl (by decide +kernel) rfl rfl (Nat.le_of_ble_eq_true rfl) dX12_feed_47 (fun H locs hP hD hS => ?_)
          have hP : va_P D vwCl [(a_p0, .inr (12, [.ref a_p0_st, .ref a_p0_isKept, .int (Int32.ofInt i_p0_seats), .int (Int32.ofInt i_p0_stirs), .ref a_p0_brings, .ref a_p0_need, .ref a_p0_draft, .int (Int32.ofInt i_p0_dSeats), .int (Int32.ofInt i_p0_dStirs), .ref a_p0_dStir, .ref a_p0_dNeed, .int (Int32.ofInt i_p0_told), .int (Int32.ofInt i_p0_highest), .ref a_p0_tape, .int (Int32.ofInt z9), .int (Int32.ofInt i_p0_pos), .int (Int32.ofInt i_p0_from), .int (Int32.ofInt i_p0_sort), .int (Int32.ofInt i_p0_value), .int (Int32.ofInt i_p0_fault), .int (Int32.ofInt i_p0_wrongAt), .ref a_p0_places, .ref a_p0_stirred, .ref a_p0_ways, .ref a_p0_waysThen, .ref a_p0_stays, .ref a_p0_fewest, .ref a_p0_bowls, .ref a_p0_has, .ref a_p0_goesOn, .ref a_p0_isThere, .ref a_p0_isThereThen, .ref a_p0_bestRow, .ref a_p0_lanes, .ref a_p0_sizes, .ref a_p0_cells, .int (Int32.ofInt i_p0_torn)])), (a_p0_tape, .inl (G 1, 320, .inl (zA w8)))] H := hP
          have hD : va_D A [(a_p0, .inr (12, [.ref a_p0_st, .ref a_p0_isKept, .int (Int32.ofInt i_p0_seats), .int (Int32.ofInt i_p0_stirs), .ref a_p0_brings, .ref a_p0_need, .ref a_p0_draft, .int (Int32.ofInt i_p0_dSeats), .int (Int32.ofInt i_p0_dStirs), .ref a_p0_dStir, .ref a_p0_dNeed, .int (Int32.ofInt i_p0_told), .int (Int32.ofInt i_p0_highest), .ref a_p0_tape, .int (Int32.ofInt z9), .int (Int32.ofInt i_p0_pos), .int (Int32.ofInt i_p0_from), .int (Int32.ofInt i_p0_sort), .int (Int32.ofInt i_p0_value), .int (Int32.ofInt i_p0_fault), .int (Int32.ofInt i_p0_wrongAt), .ref a_p0_places, .ref a_p0_stirred, .ref a_p0_ways, .ref a_p0_waysThen, .ref a_p0_stays, .ref a_p0_fewest, .ref a_p0_bowls, .ref a_p0_has, .ref a_p0_goesOn, .ref a_p0_isThere, .ref a_p0_isThereThen, .ref a_p0_bestRow, .ref a_p0_lanes, .ref a_p0_sizes, .ref a_p0_cells, .int (Int32.ofInt i_p0_torn)])), (a_p0_tape, .inl (G 1, 320, .inl (zA w8)))] := hD
          obtain ⟨z10, ez⟩ : ∃ y : Int, y = (z3 + (-8 : Int)) := ⟨_, rfl⟩
          replace hf := bnd_s hf ez
          refine lv_iinc (v := Int32.ofInt z10) (lv' := [(3, .int (Int32.ofInt z10)), (0, .ref a_p0), (1, .long (Int64.ofInt x1))]) hx hb dX12_feed_50 hl (k := 0) rfl (by rw [ez]; exact (Int32.ofInt_add _ _).symm) (by decide) rfl (fun ls hl => ?_)
          clear ez
          refine lv_goto (tgt := 19) hx hb dX12_feed_53 (by decide) ?_
          exact ih19 _ _ _ _ _ _ (lv_sub hl [0, 1, 2] rfl) hP hD hS hf
    exact hB6 _ _ _ _ _ _ _ (lv_sub hl [0, 1, 2] rfl) hP hD hS hf
  ·
    replace hf := ite_f (fun h9 => cc ((z_le hr0 (by decide)).mpr h9)) hf
    clear cc
    refine lv_bipush (v := Int32.ofInt (-3 : Int)) hx hb dX12_feed_13 (by decide) ?_
    obtain ⟨rfl, rfl, rfl⟩ := ou3 hf
    rw [hQ]
    exact W.iret hx hb hr (fun t ht hW => ⟨⟨_, (), rfl, rfl, by rw [ht]; exact hP, va_K.moved hW.alike hK, hD⟩, hS.F ht⟩) hS.2.2 dX12_feed_15

noncomputable def f_X12_end (i_p0_taped : Int) (x1 : Int) : Option (Int × Int) := (ck (z_r32 x1) (ck (z_r32 i_p0_taped) (bd1 (f_X12_in x1 (0 : Int) i_p0_taped) (fun (z3 : Int) => (ck (z_r32 z3) (if z3 = (0 : Int) then (some ((-1 : Int), i_p0_taped)) else (bnd i_p0_taped (fun (z5 : Int) => (bnd x1 (fun (z6 : Int) => (some (z5, z6))))))))))))
abbrev rm_X12_end : Room := { frames := 1, cells := 0, slots := 0, locals := 25 }
theorem inX12_end_X12 : ∀ w ∈ wsX120, w ∈ wsX12_end := by first | exact fun w h => List.mem_cons_of_mem _ (List.mem_append_right _ h) | decide +kernel
theorem mwX12_end_1 : Cond.fieldLink RX12 110 "LadleKingsModel" "taped" "I" ∈ wsX12_end := by first | exact List.mem_of_getElem? (i := 1) rfl | decide +kernel
set_option maxHeartbeats 8000000 in
set_option maxRecDepth 100000 in
theorem c_X12_end (l : Launch) (D : va_G) (G : Nat → ClassId) (sz : Nat) (a_p0 : Nat) (a_p0_st : Nat) (a_p0_isKept : Nat) (a_p0_brings : Nat) (a_p0_need : Nat) (a_p0_draft : Nat) (a_p0_dStir : Nat) (a_p0_dNeed : Nat) (a_p0_tape : Nat) (a_p0_places : Nat) (a_p0_stirred : Nat) (a_p0_ways : Nat) (a_p0_waysThen : Nat) (a_p0_stays : Nat) (a_p0_fewest : Nat) (a_p0_bowls : Nat) (a_p0_has : Nat) (a_p0_goesOn : Nat) (a_p0_isThere : Nat) (a_p0_isThereThen : Nat) (a_p0_bestRow : Nat) (a_p0_lanes : Nat) (a_p0_sizes : Nat) (a_p0_cells : Nat) (i_p0_seats : Int) (i_p0_stirs : Int) (i_p0_dSeats : Int) (i_p0_dStirs : Int) (i_p0_told : Int) (i_p0_highest : Int) (i_p0_taped : Int) (i_p0_pos : Int) (i_p0_from : Int) (i_p0_sort : Int) (i_p0_value : Int) (i_p0_fault : Int) (i_p0_wrongAt : Int) (i_p0_torn : Int) (x1 : Int) (r : Int) (o_i_p0_taped : Int) (hf : f_X12_end i_p0_taped x1 = some (r, o_i_p0_taped)) : Met l yX12_end wsX12_end rm_X12_end (pcG D G [.ref a_p0, .int (Int32.ofInt x1)] sz [(a_p0, .inr (12, [.ref a_p0_st, .ref a_p0_isKept, .int (Int32.ofInt i_p0_seats), .int (Int32.ofInt i_p0_stirs), .ref a_p0_brings, .ref a_p0_need, .ref a_p0_draft, .int (Int32.ofInt i_p0_dSeats), .int (Int32.ofInt i_p0_dStirs), .ref a_p0_dStir, .ref a_p0_dNeed, .int (Int32.ofInt i_p0_told), .int (Int32.ofInt i_p0_highest), .ref a_p0_tape, .int (Int32.ofInt i_p0_taped), .int (Int32.ofInt i_p0_pos), .int (Int32.ofInt i_p0_from), .int (Int32.ofInt i_p0_sort), .int (Int32.ofInt i_p0_value), .int (Int32.ofInt i_p0_fault), .int (Int32.ofInt i_p0_wrongAt), .ref a_p0_places, .ref a_p0_stirred, .ref a_p0_ways, .ref a_p0_waysThen, .ref a_p0_stays, .ref a_p0_fewest, .ref a_p0_bowls, .ref a_p0_has, .ref a_p0_goesOn, .ref a_p0_isThere, .ref a_p0_isThereThen, .ref a_p0_bestRow, .ref a_p0_lanes, .ref a_p0_sizes, .ref a_p0_cells, .int (Int32.ofInt i_p0_torn)]))]) (qcI D G (Int32.ofInt r) [(a_p0, .inr (12, [.ref a_p0_st, .ref a_p0_isKept, .int (Int32.ofInt i_p0_seats), .int (Int32.ofInt i_p0_stirs), .ref a_p0_brings, .ref a_p0_need, .ref a_p0_draft, .int (Int32.ofInt i_p0_dSeats), .int (Int32.ofInt i_p0_dStirs), .ref a_p0_dStir, .ref a_p0_dNeed, .int (Int32.ofInt i_p0_told), .int (Int32.ofInt i_p0_highest), .ref a_p0_tape, .int (Int32.ofInt o_i_p0_taped), .int (Int32.ofInt i_p0_pos), .int (Int32.ofInt i_p0_from), .int (Int32.ofInt i_p0_sort), .int (Int32.ofInt i_p0_value), .int (Int32.ofInt i_p0_fault), .int (Int32.ofInt i_p0_wrongAt), .ref a_p0_places, .ref a_p0_stirred, .ref a_p0_ways, .ref a_p0_waysThen, .ref a_p0_stays, .ref a_p0_fewest, .ref a_p0_bowls, .ref a_p0_has, .ref a_p0_goesOn, .ref a_p0_isThere, .ref a_p0_isThereThen, .ref a_p0_bestRow, .ref a_p0_lanes, .ref a_p0_sizes, .ref a_p0_cells, .int (Int32.ofInt i_p0_torn)]))] (va_A [(a_p0, .inr (12, [.ref a_p0_st, .ref a_p0_isKept, .int (Int32.ofInt i_p0_seats), .int (Int32.ofInt i_p0_stirs), .ref a_p0_brings, .ref a_p0_need, .ref a_p0_draft, .int (Int32.ofInt i_p0_dSeats), .int (Int32.ofInt i_p0_dStirs), .ref a_p0_dStir, .ref a_p0_dNeed, .int (Int32.ofInt i_p0_told), .int (Int32.ofInt i_p0_highest), .ref a_p0_tape, .int (Int32.ofInt i_p0_taped), .int (Int32.ofInt i_p0_pos), .int (Int32.ofInt i_p0_from), .int (Int32.ofInt i_p0_sort), .int (Int32.ofInt i_p0_value), .int (Int32.ofInt i_p0_fault), .int (Int32.ofInt i_p0_wrongAt), .ref a_p0_places, .ref a_p0_stirred, .ref a_p0_ways, .ref a_p0_waysThen, .ref a_p0_stays, .ref a_p0_fewest, .ref a_p0_bowls, .ref a_p0_has, .ref a_p0_goesOn, .ref a_p0_isThere, .ref a_p0_isThereThen, .ref a_p0_bestRow, .ref a_p0_lanes, .ref a_p0_sizes, .ref a_p0_cells, .int (Int32.ofInt i_p0_torn)]))] sz)) 0 0 (va_A [(a_p0, .inr (12, [.ref a_p0_st, .ref a_p0_isKept, .int (Int32.ofInt i_p0_seats), .int (Int32.ofInt i_p0_stirs), .ref a_p0_brings, .ref a_p0_need, .ref a_p0_draft, .int (Int32.ofInt i_p0_dSeats), .int (Int32.ofInt i_p0_dStirs), .ref a_p0_dStir, .ref a_p0_dNeed, .int (Int32.ofInt i_p0_told), .int (Int32.ofInt i_p0_highest), .ref a_p0_tape, .int (Int32.ofInt i_p0_taped), .int (Int32.ofInt i_p0_pos), .int (Int32.ofInt i_p0_from), .int (Int32.ofInt i_p0_sort), .int (Int32.ofInt i_p0_value), .int (Int32.ofInt i_p0_fault), .int (Int32.ofInt i_p0_wrongAt), .ref a_p0_places, .ref a_p0_stirred, .ref a_p0_ways, .ref a_p0_waysThen, .ref a_p0_stays, .ref a_p0_fewest, .ref a_p0_bowls, .ref a_p0_has, .ref a_p0_goesOn, .ref a_p0_isThere, .ref a_p0_isThereThen, .ref a_p0_bestRow, .ref a_p0_lanes, .ref a_p0_sizes, .ref a_p0_cells, .int (Int32.ofInt i_p0_torn)]))] sz) := by
  refine Met.ofW (cc := cX12_end) (maxL := 3) (ret := (some .int)) (by decide) rfl ?_
  intro p e s m args below meth c s₁ B hml hv
  obtain ⟨rfl, hsz, hP, hK, hD0⟩ := hv
  have hx := B.exec
  have hb := B.bytes
  have hr := B.returns
  have hts := atoms_spec (ws := wsX12_end) B.pre
  have hown : s.vm.findClass RX12 = some m.cls := findClass_of_methodNamed B.named
  have hlocks := B.notSynchronized
  subst hsz
  have hD := hD0.self (sz := s.heap.size)
  generalize hAe : va_A [(a_p0, .inr (12, [.ref a_p0_st, .ref a_p0_isKept, .int (Int32.ofInt i_p0_seats), .int (Int32.ofInt i_p0_stirs), .ref a_p0_brings, .ref a_p0_need, .ref a_p0_draft, .int (Int32.ofInt i_p0_dSeats), .int (Int32.ofInt i_p0_dStirs), .ref a_p0_dStir, .ref a_p0_dNeed, .int (Int32.ofInt i_p0_told), .int (Int32.ofInt i_p0_highest), .ref a_p0_tape, .int (Int32.ofInt i_p0_taped), .int (Int32.ofInt i_p0_pos), .int (Int32.ofInt i_p0_from), .int (Int32.ofInt i_p0_sort), .int (Int32.ofInt i_p0_value), .int (Int32.ofInt i_p0_fault), .int (Int32.ofInt i_p0_wrongAt), .ref a_p0_places, .ref a_p0_stirred, .ref a_p0_ways, .ref a_p0_waysThen, .ref a_p0_stays, .ref a_p0_fewest, .ref a_p0_bowls, .ref a_p0_has, .ref a_p0_goesOn, .ref a_p0_isThere, .ref a_p0_isThereThen, .ref a_p0_bestRow, .ref a_p0_lanes, .ref a_p0_sizes, .ref a_p0_cells, .int (Int32.ofInt i_p0_torn)]))] s.heap.size = A at hD ⊢
  have hA : ∀ q : Nat, s.heap.size ≤ q → A q := fun q h => by rw [← hAe]; exact Or.inr h
  clear hAe hD0
  have hS : va_S A s.heap s.heap [] := va_S.rf
  have hl := lv_entry ([.ref a_p0, .int (Int32.ofInt x1)]) (n := 3) (Nat.le_of_ble_eq_true rfl)
  rw [lg_entry_eq]
  generalize (lg_sl ([.ref a_p0, .int (Int32.ofInt x1)]) ++ List.replicate (3 - (lg_sl ([.ref a_p0, .int (Int32.ofInt x1)])).length) Slot.unset).toArray = ls at hl ⊢
  have hl : lv_has ls 3 [(0, .ref a_p0), (1, .int (Int32.ofInt x1))] := hl
  refine W_nameQ (fun Q hQ => ?_)
  obtain ⟨H, hH⟩ : ∃ H, H = s.heap := ⟨_, rfl⟩
  replace hS : va_S A s.heap H [] := by rw [hH]; exact hS
  replace hP : va_P D vwCl [(a_p0, .inr (12, [.ref a_p0_st, .ref a_p0_isKept, .int (Int32.ofInt i_p0_seats), .int (Int32.ofInt i_p0_stirs), .ref a_p0_brings, .ref a_p0_need, .ref a_p0_draft, .int (Int32.ofInt i_p0_dSeats), .int (Int32.ofInt i_p0_dStirs), .ref a_p0_dStir, .ref a_p0_dNeed, .int (Int32.ofInt i_p0_told), .int (Int32.ofInt i_p0_highest), .ref a_p0_tape, .int (Int32.ofInt i_p0_taped), .int (Int32.ofInt i_p0_pos), .int (Int32.ofInt i_p0_from), .int (Int32.ofInt i_p0_sort), .int (Int32.ofInt i_p0_value), .int (Int32.ofInt i_p0_fault), .int (Int32.ofInt i_p0_wrongAt), .ref a_p0_places, .ref a_p0_stirred, .ref a_p0_ways, .ref a_p0_waysThen, .ref a_p0_stays, .ref a_p0_fewest, .ref a_p0_bowls, .ref a_p0_has, .ref a_p0_goesOn, .ref a_p0_isThere, .ref a_p0_isThereThen, .ref a_p0_bestRow, .ref a_p0_lanes, .ref a_p0_sizes, .ref a_p0_cells, .int (Int32.ofInt i_p0_torn)]))] H := by rw [hH]; exact hP
  rw [← hH]
  clear hH
  unfold f_X12_end at hf
  refine lv_iload_n hx hb dX12_end_0 rfl (lv_at hl 1 rfl) ?_
  have hr0 := ck_c hf
  replace hf := ck_r hf
  refine lv_i2l (v := Int64.ofInt x1) hx hb dX12_end_1 (z_i2l hr0) ?_
  refine lv_lconst (v := Int64.ofInt (0 : Int)) hx hb dX12_end_2 (by decide) ?_
  refine lv_aload_n hx hb dX12_end_3 rfl (lv_at hl 0 rfl) ?_
  refine va_get (D := D) (ci := 12) (v := .int (Int32.ofInt i_p0_taped)) (C := RX12) (T := TX12) (N := 37) hx hb hts inX12_end_X12 hown hK hP 0 rfl rfl 14 (by decide) (hts _ mwX12_end_1) (fun _ h9 => h9) rfl dX12_end_4 ?_
  have hr1 := ck_c hf
  replace hf := ck_r hf
  refine lv_i2l (v := Int64.ofInt i_p0_taped) hx hb dX12_end_7 (z_i2l hr1) ?_
  have hq := bd1_s hf
  clear hf
  obtain ⟨z3, hcall, hf⟩ := hq
  refine gnI (va_runS (As := [.long (Int64.ofInt x1), .long (Int64.ofInt (0 : Int)), .long (Int64.ofInt i_p0_taped)]) (rest := []) ⟨hx, hb, hml, hown, hts⟩ (c_X12_in (l := l) (D := D) (G := G) (sz := H.size) (x0 := x1) (x2 := (0 : Int)) (x4 := i_p0_taped) (r := z3) (hf := hcall)) (va_cwS 3 hts gX12_end_X12_in rfl rfl rfl (by decide +kernel) ⟨Nat.le_of_ble_eq_true rfl, Nat.le_of_ble_eq_true rfl⟩) (preG_S (hP.sub [] rfl) (hD.sub [] rfl rfl) hK) rfl rfl hl.1 rfl (lv_room (Nat.le_of_ble_eq_true rfl)) dX12_end_8 ⟨Nat.le_of_ble_eq_true rfl, Nat.le_of_ble_eq_true rfl⟩) hP hD hS hA [] rfl (fun H locs hP hD hS => ?_)
  clear hcall
  have hr3 := ck_c hf
  replace hf := ck_r hf
  refine lv_if_ne (tgt := 16) hx hb dX12_end_11 (by decide) (fun cc => ?_) (fun cc => ?_)
  ·
    replace hf := ite_f (fun h9 => cc ((z_eq0 hr3).mpr h9)) hf
    clear cc
    refine lv_aload_n hx hb dX12_end_16 rfl (lv_at hl 0 rfl) ?_
    refine va_get (D := D) (ci := 12) (v := .int (Int32.ofInt i_p0_taped)) (C := RX12) (T := TX12) (N := 37) hx hb hts inX12_end_X12 hown hK hP 0 rfl rfl 14 (by decide) (hts _ mwX12_end_1) (fun _ h9 => h9) rfl dX12_end_17 ?_
    refine z_topi (fun z5 ez => ?_)
    replace hf := bnd_s hf ez
    clear ez
    refine lv_istore_n (lv' := [(2, .int (Int32.ofInt z5)), (0, .ref a_p0), (1, .int (Int32.ofInt x1))]) hx hb dX12_end_20 rfl hl (by decide) rfl (fun ls hl => ?_)
    refine lv_aload_n hx hb dX12_end_21 rfl (lv_at hl 1 rfl) ?_
    refine lv_iload_n hx hb dX12_end_22 rfl (lv_at hl 2 rfl) ?_
    refine z_topi (fun z6 ez => ?_)
    replace hf := bnd_s hf ez
    clear ez
    refine va_put (D := D) (ci := 12) (v := .int (Int32.ofInt z6)) (ty := .int) (C := RX12) (T := TX12) (N := 37) hx hb hts inX12_end_X12 tyX12 tyX12_ok nmX12 hown hK hP hD hS 0 rfl rfl 14 (by decide) (hts _ mwX12_end_1) (fun _ h9 => h9) rfl (by decide +kernel) rfl rfl (Nat.le_of_ble_eq_true rfl) dX12_end_23 (fun H locs hP hD hS => ?_)
    have hP : va_P D vwCl [(a_p0, .inr (12, [.ref a_p0_st, .ref a_p0_isKept, .int (Int32.ofInt i_p0_seats), .int (Int32.ofInt i_p0_stirs), .ref a_p0_brings, .ref a_p0_need, .ref a_p0_draft, .int (Int32.ofInt i_p0_dSeats), .int (Int32.ofInt i_p0_dStirs), .ref a_p0_dStir, .ref a_p0_dNeed, .int (Int32.ofInt i_p0_told), .int (Int32.ofInt i_p0_highest), .ref a_p0_tape, .int (Int32.ofInt z6), .int (Int32.ofInt i_p0_pos), .int (Int32.ofInt i_p0_from), .int (Int32.ofInt i_p0_sort), .int (Int32.ofInt i_p0_value), .int (Int32.ofInt i_p0_fault), .int (Int32.ofInt i_p0_wrongAt), .ref a_p0_places, .ref a_p0_stirred, .ref a_p0_ways, .ref a_p0_waysThen, .ref a_p0_stays, .ref a_p0_fewest, .ref a_p0_bowls, .ref a_p0_has, .ref a_p0_goesOn, .ref a_p0_isThere, .ref a_p0_isThereThen, .ref a_p0_bestRow, .ref a_p0_lanes, .ref a_p0_sizes, .ref a_p0_cells, .int (Int32.ofInt i_p0_torn)]))] H := hP
    have hD : va_D A [(a_p0, .inr (12, [.ref a_p0_st, .ref a_p0_isKept, .int (Int32.ofInt i_p0_seats), .int (Int32.ofInt i_p0_stirs), .ref a_p0_brings, .ref a_p0_need, .ref a_p0_draft, .int (Int32.ofInt i_p0_dSeats), .int (Int32.ofInt i_p0_dStirs), .ref a_p0_dStir, .ref a_p0_dNeed, .int (Int32.ofInt i_p0_told), .int (Int32.ofInt i_p0_highest), .ref a_p0_tape, .int (Int32.ofInt z6), .int (Int32.ofInt i_p0_pos), .int (Int32.ofInt i_p0_from), .int (Int32.ofInt i_p0_sort), .int (Int32.ofInt i_p0_value), .int (Int32.ofInt i_p0_fault), .int (Int32.ofInt i_p0_wrongAt), .ref a_p0_places, .ref a_p0_stirred, .ref a_p0_ways, .ref a_p0_waysThen, .ref a_p0_stays, .ref a_p0_fewest, .ref a_p0_bowls, .ref a_p0_has, .ref a_p0_goesOn, .ref a_p0_isThere, .ref a_p0_isThereThen, .ref a_p0_bestRow, .ref a_p0_lanes, .ref a_p0_sizes, .ref a_p0_cells, .int (Int32.ofInt i_p0_torn)]))] := hD
    refine lv_iload_n hx hb dX12_end_26 rfl (lv_at hl 0 rfl) ?_
    obtain ⟨rfl, rfl⟩ := ou2 hf
    rw [hQ]
    exact W.iret hx hb hr (fun t ht hW => ⟨⟨_, (), rfl, rfl, by rw [ht]; exact hP, va_K.moved hW.alike hK, hD⟩, hS.F ht⟩) hS.2.2 dX12_end_27
  ·
    replace hf := ite_t ((z_eq0 hr3).mp cc) hf
    clear cc
    refine lv_iconst (v := Int32.ofInt (-1 : Int)) hx hb dX12_end_14 (by decide) ?_
    obtain ⟨rfl, rfl⟩ := ou2 hf
    rw [hQ]
    exact W.iret hx hb hr (fun t ht hW => ⟨⟨_, (), rfl, rfl, by rw [ht]; exact hP, va_K.moved hW.alike hK, hD⟩, hS.F ht⟩) hS.2.2 dX12_end_15

noncomputable def f_X12_needs (i_p0_from : Int) (i_p0_fault : Int) (i_p0_wrongAt : Int) (x1 : Int) (x2 : Int) : Option (Int × Int) := (ck (z_r32 x1) (if x1 = (0 : Int) then (ck (z_r32 i_p0_fault) (if i_p0_fault = (0 : Int) then (bnd x2 (fun (z3 : Int) => (bnd i_p0_from (fun (z4 : Int) => (some (z3, z4)))))) else (some (i_p0_fault, i_p0_wrongAt)))) else (some (i_p0_fault, i_p0_wrongAt))))
abbrev rm_X12_needs : Room := { frames := 0, cells := 0, slots := 0, locals := 0 }
theorem inX12_needs_X12 : ∀ w ∈ wsX120, w ∈ wsX12_needs := by first | exact fun w h => List.mem_cons_of_mem _ (List.mem_append_right _ h) | decide +kernel
theorem mwX12_needs_1 : Cond.fieldLink RX12 119 "LadleKingsModel" "fault" "I" ∈ wsX12_needs := by first | exact List.mem_of_getElem? (i := 1) rfl | decide +kernel
theorem mwX12_needs_2 : Cond.fieldLink RX12 122 "LadleKingsModel" "from" "I" ∈ wsX12_needs := by first | exact List.mem_of_getElem? (i := 2) rfl | decide +kernel
theorem mwX12_needs_3 : Cond.fieldLink RX12 125 "LadleKingsModel" "wrongAt" "I" ∈ wsX12_needs := by first | exact List.mem_of_getElem? (i := 3) rfl | decide +kernel
set_option maxHeartbeats 8000000 in
set_option maxRecDepth 100000 in
theorem c_X12_needs (l : Launch) (D : va_G) (G : Nat → ClassId) (sz : Nat) (a_p0 : Nat) (a_p0_st : Nat) (a_p0_isKept : Nat) (a_p0_brings : Nat) (a_p0_need : Nat) (a_p0_draft : Nat) (a_p0_dStir : Nat) (a_p0_dNeed : Nat) (a_p0_tape : Nat) (a_p0_places : Nat) (a_p0_stirred : Nat) (a_p0_ways : Nat) (a_p0_waysThen : Nat) (a_p0_stays : Nat) (a_p0_fewest : Nat) (a_p0_bowls : Nat) (a_p0_has : Nat) (a_p0_goesOn : Nat) (a_p0_isThere : Nat) (a_p0_isThereThen : Nat) (a_p0_bestRow : Nat) (a_p0_lanes : Nat) (a_p0_sizes : Nat) (a_p0_cells : Nat) (i_p0_seats : Int) (i_p0_stirs : Int) (i_p0_dSeats : Int) (i_p0_dStirs : Int) (i_p0_told : Int) (i_p0_highest : Int) (i_p0_taped : Int) (i_p0_pos : Int) (i_p0_from : Int) (i_p0_sort : Int) (i_p0_value : Int) (i_p0_fault : Int) (i_p0_wrongAt : Int) (i_p0_torn : Int) (x1 : Int) (x2 : Int) (o_i_p0_fault : Int) (o_i_p0_wrongAt : Int) (hf : f_X12_needs i_p0_from i_p0_fault i_p0_wrongAt x1 x2 = some (o_i_p0_fault, o_i_p0_wrongAt)) : Met l yX12_needs wsX12_needs rm_X12_needs (pcG D G [.ref a_p0, .int (Int32.ofInt x1), .int (Int32.ofInt x2)] sz [(a_p0, .inr (12, [.ref a_p0_st, .ref a_p0_isKept, .int (Int32.ofInt i_p0_seats), .int (Int32.ofInt i_p0_stirs), .ref a_p0_brings, .ref a_p0_need, .ref a_p0_draft, .int (Int32.ofInt i_p0_dSeats), .int (Int32.ofInt i_p0_dStirs), .ref a_p0_dStir, .ref a_p0_dNeed, .int (Int32.ofInt i_p0_told), .int (Int32.ofInt i_p0_highest), .ref a_p0_tape, .int (Int32.ofInt i_p0_taped), .int (Int32.ofInt i_p0_pos), .int (Int32.ofInt i_p0_from), .int (Int32.ofInt i_p0_sort), .int (Int32.ofInt i_p0_value), .int (Int32.ofInt i_p0_fault), .int (Int32.ofInt i_p0_wrongAt), .ref a_p0_places, .ref a_p0_stirred, .ref a_p0_ways, .ref a_p0_waysThen, .ref a_p0_stays, .ref a_p0_fewest, .ref a_p0_bowls, .ref a_p0_has, .ref a_p0_goesOn, .ref a_p0_isThere, .ref a_p0_isThereThen, .ref a_p0_bestRow, .ref a_p0_lanes, .ref a_p0_sizes, .ref a_p0_cells, .int (Int32.ofInt i_p0_torn)]))]) (qcV D G [(a_p0, .inr (12, [.ref a_p0_st, .ref a_p0_isKept, .int (Int32.ofInt i_p0_seats), .int (Int32.ofInt i_p0_stirs), .ref a_p0_brings, .ref a_p0_need, .ref a_p0_draft, .int (Int32.ofInt i_p0_dSeats), .int (Int32.ofInt i_p0_dStirs), .ref a_p0_dStir, .ref a_p0_dNeed, .int (Int32.ofInt i_p0_told), .int (Int32.ofInt i_p0_highest), .ref a_p0_tape, .int (Int32.ofInt i_p0_taped), .int (Int32.ofInt i_p0_pos), .int (Int32.ofInt i_p0_from), .int (Int32.ofInt i_p0_sort), .int (Int32.ofInt i_p0_value), .int (Int32.ofInt o_i_p0_fault), .int (Int32.ofInt o_i_p0_wrongAt), .ref a_p0_places, .ref a_p0_stirred, .ref a_p0_ways, .ref a_p0_waysThen, .ref a_p0_stays, .ref a_p0_fewest, .ref a_p0_bowls, .ref a_p0_has, .ref a_p0_goesOn, .ref a_p0_isThere, .ref a_p0_isThereThen, .ref a_p0_bestRow, .ref a_p0_lanes, .ref a_p0_sizes, .ref a_p0_cells, .int (Int32.ofInt i_p0_torn)]))] (va_A [(a_p0, .inr (12, [.ref a_p0_st, .ref a_p0_isKept, .int (Int32.ofInt i_p0_seats), .int (Int32.ofInt i_p0_stirs), .ref a_p0_brings, .ref a_p0_need, .ref a_p0_draft, .int (Int32.ofInt i_p0_dSeats), .int (Int32.ofInt i_p0_dStirs), .ref a_p0_dStir, .ref a_p0_dNeed, .int (Int32.ofInt i_p0_told), .int (Int32.ofInt i_p0_highest), .ref a_p0_tape, .int (Int32.ofInt i_p0_taped), .int (Int32.ofInt i_p0_pos), .int (Int32.ofInt i_p0_from), .int (Int32.ofInt i_p0_sort), .int (Int32.ofInt i_p0_value), .int (Int32.ofInt i_p0_fault), .int (Int32.ofInt i_p0_wrongAt), .ref a_p0_places, .ref a_p0_stirred, .ref a_p0_ways, .ref a_p0_waysThen, .ref a_p0_stays, .ref a_p0_fewest, .ref a_p0_bowls, .ref a_p0_has, .ref a_p0_goesOn, .ref a_p0_isThere, .ref a_p0_isThereThen, .ref a_p0_bestRow, .ref a_p0_lanes, .ref a_p0_sizes, .ref a_p0_cells, .int (Int32.ofInt i_p0_torn)]))] sz)) 0 0 (va_A [(a_p0, .inr (12, [.ref a_p0_st, .ref a_p0_isKept, .int (Int32.ofInt i_p0_seats), .int (Int32.ofInt i_p0_stirs), .ref a_p0_brings, .ref a_p0_need, .ref a_p0_draft, .int (Int32.ofInt i_p0_dSeats), .int (Int32.ofInt i_p0_dStirs), .ref a_p0_dStir, .ref a_p0_dNeed, .int (Int32.ofInt i_p0_told), .int (Int32.ofInt i_p0_highest), .ref a_p0_tape, .int (Int32.ofInt i_p0_taped), .int (Int32.ofInt i_p0_pos), .int (Int32.ofInt i_p0_from), .int (Int32.ofInt i_p0_sort), .int (Int32.ofInt i_p0_value), .int (Int32.ofInt i_p0_fault), .int (Int32.ofInt i_p0_wrongAt), .ref a_p0_places, .ref a_p0_stirred, .ref a_p0_ways, .ref a_p0_waysThen, .ref a_p0_stays, .ref a_p0_fewest, .ref a_p0_bowls, .ref a_p0_has, .ref a_p0_goesOn, .ref a_p0_isThere, .ref a_p0_isThereThen, .ref a_p0_bestRow, .ref a_p0_lanes, .ref a_p0_sizes, .ref a_p0_cells, .int (Int32.ofInt i_p0_torn)]))] sz) := by
  refine Met.ofW (cc := cX12_needs) (maxL := 3) (ret := none) (by decide) rfl ?_
  intro p e s m args below meth c s₁ B hml hv
  obtain ⟨rfl, hsz, hP, hK, hD0⟩ := hv
  have hx := B.exec
  have hb := B.bytes
  have hr := B.returns
  have hts := atoms_spec (ws := wsX12_needs) B.pre
  have hown : s.vm.findClass RX12 = some m.cls := findClass_of_methodNamed B.named
  have hlocks := B.notSynchronized
  subst hsz
  have hD := hD0.self (sz := s.heap.size)
  generalize hAe : va_A [(a_p0, .inr (12, [.ref a_p0_st, .ref a_p0_isKept, .int (Int32.ofInt i_p0_seats), .int (Int32.ofInt i_p0_stirs), .ref a_p0_brings, .ref a_p0_need, .ref a_p0_draft, .int (Int32.ofInt i_p0_dSeats), .int (Int32.ofInt i_p0_dStirs), .ref a_p0_dStir, .ref a_p0_dNeed, .int (Int32.ofInt i_p0_told), .int (Int32.ofInt i_p0_highest), .ref a_p0_tape, .int (Int32.ofInt i_p0_taped), .int (Int32.ofInt i_p0_pos), .int (Int32.ofInt i_p0_from), .int (Int32.ofInt i_p0_sort), .int (Int32.ofInt i_p0_value), .int (Int32.ofInt i_p0_fault), .int (Int32.ofInt i_p0_wrongAt), .ref a_p0_places, .ref a_p0_stirred, .ref a_p0_ways, .ref a_p0_waysThen, .ref a_p0_stays, .ref a_p0_fewest, .ref a_p0_bowls, .ref a_p0_has, .ref a_p0_goesOn, .ref a_p0_isThere, .ref a_p0_isThereThen, .ref a_p0_bestRow, .ref a_p0_lanes, .ref a_p0_sizes, .ref a_p0_cells, .int (Int32.ofInt i_p0_torn)]))] s.heap.size = A at hD ⊢
  have hA : ∀ q : Nat, s.heap.size ≤ q → A q := fun q h => by rw [← hAe]; exact Or.inr h
  clear hAe hD0
  have hS : va_S A s.heap s.heap [] := va_S.rf
  have hl := lv_entry ([.ref a_p0, .int (Int32.ofInt x1), .int (Int32.ofInt x2)]) (n := 3) (Nat.le_of_ble_eq_true rfl)
  rw [lg_entry_eq]
  generalize (lg_sl ([.ref a_p0, .int (Int32.ofInt x1), .int (Int32.ofInt x2)]) ++ List.replicate (3 - (lg_sl ([.ref a_p0, .int (Int32.ofInt x1), .int (Int32.ofInt x2)])).length) Slot.unset).toArray = ls at hl ⊢
  have hl : lv_has ls 3 [(0, .ref a_p0), (1, .int (Int32.ofInt x1)), (2, .int (Int32.ofInt x2))] := hl
  refine W_nameQ (fun Q hQ => ?_)
  obtain ⟨H, hH⟩ : ∃ H, H = s.heap := ⟨_, rfl⟩
  replace hS : va_S A s.heap H [] := by rw [hH]; exact hS
  replace hP : va_P D vwCl [(a_p0, .inr (12, [.ref a_p0_st, .ref a_p0_isKept, .int (Int32.ofInt i_p0_seats), .int (Int32.ofInt i_p0_stirs), .ref a_p0_brings, .ref a_p0_need, .ref a_p0_draft, .int (Int32.ofInt i_p0_dSeats), .int (Int32.ofInt i_p0_dStirs), .ref a_p0_dStir, .ref a_p0_dNeed, .int (Int32.ofInt i_p0_told), .int (Int32.ofInt i_p0_highest), .ref a_p0_tape, .int (Int32.ofInt i_p0_taped), .int (Int32.ofInt i_p0_pos), .int (Int32.ofInt i_p0_from), .int (Int32.ofInt i_p0_sort), .int (Int32.ofInt i_p0_value), .int (Int32.ofInt i_p0_fault), .int (Int32.ofInt i_p0_wrongAt), .ref a_p0_places, .ref a_p0_stirred, .ref a_p0_ways, .ref a_p0_waysThen, .ref a_p0_stays, .ref a_p0_fewest, .ref a_p0_bowls, .ref a_p0_has, .ref a_p0_goesOn, .ref a_p0_isThere, .ref a_p0_isThereThen, .ref a_p0_bestRow, .ref a_p0_lanes, .ref a_p0_sizes, .ref a_p0_cells, .int (Int32.ofInt i_p0_torn)]))] H := by rw [hH]; exact hP
  rw [← hH]
  clear hH
  unfold f_X12_needs at hf
  refine lv_iload_n hx hb dX12_needs_0 rfl (lv_at hl 1 rfl) ?_
  have hr0 := ck_c hf
  replace hf := ck_r hf
  refine lv_if_ne (tgt := 24) hx hb dX12_needs_1 (by decide) (fun cc => ?_) (fun cc => ?_)
  ·
    replace hf := ite_f (fun h9 => cc ((z_eq0 hr0).mpr h9)) hf
    clear cc
    obtain ⟨rfl, rfl⟩ := ou2 hf
    rw [hQ]
    exact W.vret hx hb hr (fun t ht hW => ⟨⟨(), rfl, trivial, by rw [ht]; exact hP, va_K.moved hW.alike hK, hD⟩, hS.F ht⟩) hS.2.2 dX12_needs_24
  ·
    replace hf := ite_t ((z_eq0 hr0).mp cc) hf
    clear cc
    refine lv_aload_n hx hb dX12_needs_4 rfl (lv_at hl 0 rfl) ?_
    refine va_get (D := D) (ci := 12) (v := .int (Int32.ofInt i_p0_fault)) (C := RX12) (T := TX12) (N := 37) hx hb hts inX12_needs_X12 hown hK hP 0 rfl rfl 19 (by decide) (hts _ mwX12_needs_1) (fun _ h9 => h9) rfl dX12_needs_5 ?_
    have hr1 := ck_c hf
    replace hf := ck_r hf
    refine lv_if_ne (tgt := 24) hx hb dX12_needs_8 (by decide) (fun cc => ?_) (fun cc => ?_)
    ·
      replace hf := ite_f (fun h9 => cc ((z_eq0 hr1).mpr h9)) hf
      clear cc
      obtain ⟨rfl, rfl⟩ := ou2 hf
      rw [hQ]
      exact W.vret hx hb hr (fun t ht hW => ⟨⟨(), rfl, trivial, by rw [ht]; exact hP, va_K.moved hW.alike hK, hD⟩, hS.F ht⟩) hS.2.2 dX12_needs_24
    ·
      replace hf := ite_t ((z_eq0 hr1).mp cc) hf
      clear cc
      refine lv_aload_n hx hb dX12_needs_11 rfl (lv_at hl 0 rfl) ?_
      refine lv_iload_n hx hb dX12_needs_12 rfl (lv_at hl 2 rfl) ?_
      refine z_topi (fun z3 ez => ?_)
      replace hf := bnd_s hf ez
      clear ez
      refine va_put (D := D) (ci := 12) (v := .int (Int32.ofInt z3)) (ty := .int) (C := RX12) (T := TX12) (N := 37) hx hb hts inX12_needs_X12 tyX12 tyX12_ok nmX12 hown hK hP hD hS 0 rfl rfl 19 (by decide) (hts _ mwX12_needs_1) (fun _ h9 => h9) rfl (by decide +kernel) rfl rfl (Nat.le_of_ble_eq_true rfl) dX12_needs_13 (fun H locs hP hD hS => ?_)
      have hP : va_P D vwCl [(a_p0, .inr (12, [.ref a_p0_st, .ref a_p0_isKept, .int (Int32.ofInt i_p0_seats), .int (Int32.ofInt i_p0_stirs), .ref a_p0_brings, .ref a_p0_need, .ref a_p0_draft, .int (Int32.ofInt i_p0_dSeats), .int (Int32.ofInt i_p0_dStirs), .ref a_p0_dStir, .ref a_p0_dNeed, .int (Int32.ofInt i_p0_told), .int (Int32.ofInt i_p0_highest), .ref a_p0_tape, .int (Int32.ofInt i_p0_taped), .int (Int32.ofInt i_p0_pos), .int (Int32.ofInt i_p0_from), .int (Int32.ofInt i_p0_sort), .int (Int32.ofInt i_p0_value), .int (Int32.ofInt z3), .int (Int32.ofInt i_p0_wrongAt), .ref a_p0_places, .ref a_p0_stirred, .ref a_p0_ways, .ref a_p0_waysThen, .ref a_p0_stays, .ref a_p0_fewest, .ref a_p0_bowls, .ref a_p0_has, .ref a_p0_goesOn, .ref a_p0_isThere, .ref a_p0_isThereThen, .ref a_p0_bestRow, .ref a_p0_lanes, .ref a_p0_sizes, .ref a_p0_cells, .int (Int32.ofInt i_p0_torn)]))] H := hP
      have hD : va_D A [(a_p0, .inr (12, [.ref a_p0_st, .ref a_p0_isKept, .int (Int32.ofInt i_p0_seats), .int (Int32.ofInt i_p0_stirs), .ref a_p0_brings, .ref a_p0_need, .ref a_p0_draft, .int (Int32.ofInt i_p0_dSeats), .int (Int32.ofInt i_p0_dStirs), .ref a_p0_dStir, .ref a_p0_dNeed, .int (Int32.ofInt i_p0_told), .int (Int32.ofInt i_p0_highest), .ref a_p0_tape, .int (Int32.ofInt i_p0_taped), .int (Int32.ofInt i_p0_pos), .int (Int32.ofInt i_p0_from), .int (Int32.ofInt i_p0_sort), .int (Int32.ofInt i_p0_value), .int (Int32.ofInt z3), .int (Int32.ofInt i_p0_wrongAt), .ref a_p0_places, .ref a_p0_stirred, .ref a_p0_ways, .ref a_p0_waysThen, .ref a_p0_stays, .ref a_p0_fewest, .ref a_p0_bowls, .ref a_p0_has, .ref a_p0_goesOn, .ref a_p0_isThere, .ref a_p0_isThereThen, .ref a_p0_bestRow, .ref a_p0_lanes, .ref a_p0_sizes, .ref a_p0_cells, .int (Int32.ofInt i_p0_torn)]))] := hD
      refine lv_aload_n hx hb dX12_needs_16 rfl (lv_at hl 0 rfl) ?_
      refine lv_aload_n hx hb dX12_needs_17 rfl (lv_at hl 0 rfl) ?_
      refine va_get (D := D) (ci := 12) (v := .int (Int32.ofInt i_p0_from)) (C := RX12) (T := TX12) (N := 37) hx hb hts inX12_needs_X12 hown hK hP 0 rfl rfl 16 (by decide) (hts _ mwX12_needs_2) (fun _ h9 => h9) rfl dX12_needs_18 ?_
      refine z_topi (fun z4 ez => ?_)
      replace hf := bnd_s hf ez
      clear ez
      refine va_put (D := D) (ci := 12) (v := .int (Int32.ofInt z4)) (ty := .int) (C := RX12) (T := TX12) (N := 37) hx hb hts inX12_needs_X12 tyX12 tyX12_ok nmX12 hown hK hP hD hS 0 rfl rfl 20 (by decide) (hts _ mwX12_needs_3) (fun _ h9 => h9) rfl (by decide +kernel) rfl rfl (Nat.le_of_ble_eq_true rfl) dX12_needs_21 (fun H locs hP hD hS => ?_)
      have hP : va_P D vwCl [(a_p0, .inr (12, [.ref a_p0_st, .ref a_p0_isKept, .int (Int32.ofInt i_p0_seats), .int (Int32.ofInt i_p0_stirs), .ref a_p0_brings, .ref a_p0_need, .ref a_p0_draft, .int (Int32.ofInt i_p0_dSeats), .int (Int32.ofInt i_p0_dStirs), .ref a_p0_dStir, .ref a_p0_dNeed, .int (Int32.ofInt i_p0_told), .int (Int32.ofInt i_p0_highest), .ref a_p0_tape, .int (Int32.ofInt i_p0_taped), .int (Int32.ofInt i_p0_pos), .int (Int32.ofInt i_p0_from), .int (Int32.ofInt i_p0_sort), .int (Int32.ofInt i_p0_value), .int (Int32.ofInt z3), .int (Int32.ofInt z4), .ref a_p0_places, .ref a_p0_stirred, .ref a_p0_ways, .ref a_p0_waysThen, .ref a_p0_stays, .ref a_p0_fewest, .ref a_p0_bowls, .ref a_p0_has, .ref a_p0_goesOn, .ref a_p0_isThere, .ref a_p0_isThereThen, .ref a_p0_bestRow, .ref a_p0_lanes, .ref a_p0_sizes, .ref a_p0_cells, .int (Int32.ofInt i_p0_torn)]))] H := hP
      have hD : va_D A [(a_p0, .inr (12, [.ref a_p0_st, .ref a_p0_isKept, .int (Int32.ofInt i_p0_seats), .int (Int32.ofInt i_p0_stirs), .ref a_p0_brings, .ref a_p0_need, .ref a_p0_draft, .int (Int32.ofInt i_p0_dSeats), .int (Int32.ofInt i_p0_dStirs), .ref a_p0_dStir, .ref a_p0_dNeed, .int (Int32.ofInt i_p0_told), .int (Int32.ofInt i_p0_highest), .ref a_p0_tape, .int (Int32.ofInt i_p0_taped), .int (Int32.ofInt i_p0_pos), .int (Int32.ofInt i_p0_from), .int (Int32.ofInt i_p0_sort), .int (Int32.ofInt i_p0_value), .int (Int32.ofInt z3), .int (Int32.ofInt z4), .ref a_p0_places, .ref a_p0_stirred, .ref a_p0_ways, .ref a_p0_waysThen, .ref a_p0_stays, .ref a_p0_fewest, .ref a_p0_bowls, .ref a_p0_has, .ref a_p0_goesOn, .ref a_p0_isThere, .ref a_p0_isThereThen, .ref a_p0_bestRow, .ref a_p0_lanes, .ref a_p0_sizes, .ref a_p0_cells, .int (Int32.ofInt i_p0_torn)]))] := hD
      obtain ⟨rfl, rfl⟩ := ou2 hf
      rw [hQ]
      exact W.vret hx hb hr (fun t ht hW => ⟨⟨(), rfl, trivial, by rw [ht]; exact hP, va_K.moved hW.alike hK, hD⟩, hS.F ht⟩) hS.2.2 dX12_needs_24

noncomputable def f_X12_look (i_p0_taped : Int) (v_p0_tape : (Int → Int)) (x1 : Int) : Option (Int) := (ck (z_r32 x1) (ck (z_r32 i_p0_taped) (if i_p0_taped ≤ x1 then (some (-1 : Int)) else (ck (z_ix x1 320) (some (v_p0_tape x1))))))
abbrev rm_X12_look : Room := { frames := 0, cells := 0, slots := 0, locals := 0 }
theorem inX12_look_X12 : ∀ w ∈ wsX120, w ∈ wsX12_look := by first | exact fun w h => List.mem_cons_of_mem _ (List.mem_append_right _ h) | decide +kernel
theorem mwX12_look_1 : Cond.fieldLink RX12 110 "LadleKingsModel" "taped" "I" ∈ wsX12_look := by first | exact List.mem_of_getElem? (i := 1) rfl | decide +kernel
theorem mwX12_look_2 : Cond.fieldLink RX12 32 "LadleKingsModel" "tape" "[I" ∈ wsX12_look := by first | exact List.mem_of_getElem? (i := 2) rfl | decide +kernel
set_option maxHeartbeats 8000000 in
set_option maxRecDepth 100000 in
theorem c_X12_look (l : Launch) (D : va_G) (G : Nat → ClassId) (sz : Nat) (a_p0 : Nat) (a_p0_st : Nat) (a_p0_isKept : Nat) (a_p0_brings : Nat) (a_p0_need : Nat) (a_p0_draft : Nat) (a_p0_dStir : Nat) (a_p0_dNeed : Nat) (a_p0_tape : Nat) (a_p0_places : Nat) (a_p0_stirred : Nat) (a_p0_ways : Nat) (a_p0_waysThen : Nat) (a_p0_stays : Nat) (a_p0_fewest : Nat) (a_p0_bowls : Nat) (a_p0_has : Nat) (a_p0_goesOn : Nat) (a_p0_isThere : Nat) (a_p0_isThereThen : Nat) (a_p0_bestRow : Nat) (a_p0_lanes : Nat) (a_p0_sizes : Nat) (a_p0_cells : Nat) (i_p0_seats : Int) (i_p0_stirs : Int) (i_p0_dSeats : Int) (i_p0_dStirs : Int) (i_p0_told : Int) (i_p0_highest : Int) (i_p0_taped : Int) (i_p0_pos : Int) (i_p0_from : Int) (i_p0_sort : Int) (i_p0_value : Int) (i_p0_fault : Int) (i_p0_wrongAt : Int) (i_p0_torn : Int) (v_p0_tape : (Int → Int)) (x1 : Int) (r : Int) (hf : f_X12_look i_p0_taped v_p0_tape x1 = some r) : Met l yX12_look wsX12_look rm_X12_look (pcG D G [.ref a_p0, .int (Int32.ofInt x1)] sz [(a_p0, .inr (12, [.ref a_p0_st, .ref a_p0_isKept, .int (Int32.ofInt i_p0_seats), .int (Int32.ofInt i_p0_stirs), .ref a_p0_brings, .ref a_p0_need, .ref a_p0_draft, .int (Int32.ofInt i_p0_dSeats), .int (Int32.ofInt i_p0_dStirs), .ref a_p0_dStir, .ref a_p0_dNeed, .int (Int32.ofInt i_p0_told), .int (Int32.ofInt i_p0_highest), .ref a_p0_tape, .int (Int32.ofInt i_p0_taped), .int (Int32.ofInt i_p0_pos), .int (Int32.ofInt i_p0_from), .int (Int32.ofInt i_p0_sort), .int (Int32.ofInt i_p0_value), .int (Int32.ofInt i_p0_fault), .int (Int32.ofInt i_p0_wrongAt), .ref a_p0_places, .ref a_p0_stirred, .ref a_p0_ways, .ref a_p0_waysThen, .ref a_p0_stays, .ref a_p0_fewest, .ref a_p0_bowls, .ref a_p0_has, .ref a_p0_goesOn, .ref a_p0_isThere, .ref a_p0_isThereThen, .ref a_p0_bestRow, .ref a_p0_lanes, .ref a_p0_sizes, .ref a_p0_cells, .int (Int32.ofInt i_p0_torn)])), (a_p0_tape, .inl (G 1, 320, .inl (zA v_p0_tape)))]) (qcI D G (Int32.ofInt r) [(a_p0, .inr (12, [.ref a_p0_st, .ref a_p0_isKept, .int (Int32.ofInt i_p0_seats), .int (Int32.ofInt i_p0_stirs), .ref a_p0_brings, .ref a_p0_need, .ref a_p0_draft, .int (Int32.ofInt i_p0_dSeats), .int (Int32.ofInt i_p0_dStirs), .ref a_p0_dStir, .ref a_p0_dNeed, .int (Int32.ofInt i_p0_told), .int (Int32.ofInt i_p0_highest), .ref a_p0_tape, .int (Int32.ofInt i_p0_taped), .int (Int32.ofInt i_p0_pos), .int (Int32.ofInt i_p0_from), .int (Int32.ofInt i_p0_sort), .int (Int32.ofInt i_p0_value), .int (Int32.ofInt i_p0_fault), .int (Int32.ofInt i_p0_wrongAt), .ref a_p0_places, .ref a_p0_stirred, .ref a_p0_ways, .ref a_p0_waysThen, .ref a_p0_stays, .ref a_p0_fewest, .ref a_p0_bowls, .ref a_p0_has, .ref a_p0_goesOn, .ref a_p0_isThere, .ref a_p0_isThereThen, .ref a_p0_bestRow, .ref a_p0_lanes, .ref a_p0_sizes, .ref a_p0_cells, .int (Int32.ofInt i_p0_torn)])), (a_p0_tape, .inl (G 1, 320, .inl (zA v_p0_tape)))] (va_A [(a_p0, .inr (12, [.ref a_p0_st, .ref a_p0_isKept, .int (Int32.ofInt i_p0_seats), .int (Int32.ofInt i_p0_stirs), .ref a_p0_brings, .ref a_p0_need, .ref a_p0_draft, .int (Int32.ofInt i_p0_dSeats), .int (Int32.ofInt i_p0_dStirs), .ref a_p0_dStir, .ref a_p0_dNeed, .int (Int32.ofInt i_p0_told), .int (Int32.ofInt i_p0_highest), .ref a_p0_tape, .int (Int32.ofInt i_p0_taped), .int (Int32.ofInt i_p0_pos), .int (Int32.ofInt i_p0_from), .int (Int32.ofInt i_p0_sort), .int (Int32.ofInt i_p0_value), .int (Int32.ofInt i_p0_fault), .int (Int32.ofInt i_p0_wrongAt), .ref a_p0_places, .ref a_p0_stirred, .ref a_p0_ways, .ref a_p0_waysThen, .ref a_p0_stays, .ref a_p0_fewest, .ref a_p0_bowls, .ref a_p0_has, .ref a_p0_goesOn, .ref a_p0_isThere, .ref a_p0_isThereThen, .ref a_p0_bestRow, .ref a_p0_lanes, .ref a_p0_sizes, .ref a_p0_cells, .int (Int32.ofInt i_p0_torn)])), (a_p0_tape, .inl (G 1, 320, .inl (zA v_p0_tape)))] sz)) 0 0 (va_A [(a_p0, .inr (12, [.ref a_p0_st, .ref a_p0_isKept, .int (Int32.ofInt i_p0_seats), .int (Int32.ofInt i_p0_stirs), .ref a_p0_brings, .ref a_p0_need, .ref a_p0_draft, .int (Int32.ofInt i_p0_dSeats), .int (Int32.ofInt i_p0_dStirs), .ref a_p0_dStir, .ref a_p0_dNeed, .int (Int32.ofInt i_p0_told), .int (Int32.ofInt i_p0_highest), .ref a_p0_tape, .int (Int32.ofInt i_p0_taped), .int (Int32.ofInt i_p0_pos), .int (Int32.ofInt i_p0_from), .int (Int32.ofInt i_p0_sort), .int (Int32.ofInt i_p0_value), .int (Int32.ofInt i_p0_fault), .int (Int32.ofInt i_p0_wrongAt), .ref a_p0_places, .ref a_p0_stirred, .ref a_p0_ways, .ref a_p0_waysThen, .ref a_p0_stays, .ref a_p0_fewest, .ref a_p0_bowls, .ref a_p0_has, .ref a_p0_goesOn, .ref a_p0_isThere, .ref a_p0_isThereThen, .ref a_p0_bestRow, .ref a_p0_lanes, .ref a_p0_sizes, .ref a_p0_cells, .int (Int32.ofInt i_p0_torn)])), (a_p0_tape, .inl (G 1, 320, .inl (zA v_p0_tape)))] sz) := by
  refine Met.ofW (cc := cX12_look) (maxL := 2) (ret := (some .int)) (by decide) rfl ?_
  intro p e s m args below meth c s₁ B hml hv
  obtain ⟨rfl, hsz, hP, hK, hD0⟩ := hv
  have hx := B.exec
  have hb := B.bytes
  have hr := B.returns
  have hts := atoms_spec (ws := wsX12_look) B.pre
  have hown : s.vm.findClass RX12 = some m.cls := findClass_of_methodNamed B.named
  have hlocks := B.notSynchronized
  subst hsz
  have hD := hD0.self (sz := s.heap.size)
  generalize hAe : va_A [(a_p0, .inr (12, [.ref a_p0_st, .ref a_p0_isKept, .int (Int32.ofInt i_p0_seats), .int (Int32.ofInt i_p0_stirs), .ref a_p0_brings, .ref a_p0_need, .ref a_p0_draft, .int (Int32.ofInt i_p0_dSeats), .int (Int32.ofInt i_p0_dStirs), .ref a_p0_dStir, .ref a_p0_dNeed, .int (Int32.ofInt i_p0_told), .int (Int32.ofInt i_p0_highest), .ref a_p0_tape, .int (Int32.ofInt i_p0_taped), .int (Int32.ofInt i_p0_pos), .int (Int32.ofInt i_p0_from), .int (Int32.ofInt i_p0_sort), .int (Int32.ofInt i_p0_value), .int (Int32.ofInt i_p0_fault), .int (Int32.ofInt i_p0_wrongAt), .ref a_p0_places, .ref a_p0_stirred, .ref a_p0_ways, .ref a_p0_waysThen, .ref a_p0_stays, .ref a_p0_fewest, .ref a_p0_bowls, .ref a_p0_has, .ref a_p0_goesOn, .ref a_p0_isThere, .ref a_p0_isThereThen, .ref a_p0_bestRow, .ref a_p0_lanes, .ref a_p0_sizes, .ref a_p0_cells, .int (Int32.ofInt i_p0_torn)])), (a_p0_tape, .inl (G 1, 320, .inl (zA v_p0_tape)))] s.heap.size = A at hD ⊢
  have hA : ∀ q : Nat, s.heap.size ≤ q → A q := fun q h => by rw [← hAe]; exact Or.inr h
  clear hAe hD0
  have hS : va_S A s.heap s.heap [] := va_S.rf
  have hl := lv_entry ([.ref a_p0, .int (Int32.ofInt x1)]) (n := 2) (Nat.le_of_ble_eq_true rfl)
  rw [lg_entry_eq]
  generalize (lg_sl ([.ref a_p0, .int (Int32.ofInt x1)]) ++ List.replicate (2 - (lg_sl ([.ref a_p0, .int (Int32.ofInt x1)])).length) Slot.unset).toArray = ls at hl ⊢
  have hl : lv_has ls 2 [(0, .ref a_p0), (1, .int (Int32.ofInt x1))] := hl
  refine W_nameQ (fun Q hQ => ?_)
  obtain ⟨H, hH⟩ : ∃ H, H = s.heap := ⟨_, rfl⟩
  replace hS : va_S A s.heap H [] := by rw [hH]; exact hS
  replace hP : va_P D vwCl [(a_p0, .inr (12, [.ref a_p0_st, .ref a_p0_isKept, .int (Int32.ofInt i_p0_seats), .int (Int32.ofInt i_p0_stirs), .ref a_p0_brings, .ref a_p0_need, .ref a_p0_draft, .int (Int32.ofInt i_p0_dSeats), .int (Int32.ofInt i_p0_dStirs), .ref a_p0_dStir, .ref a_p0_dNeed, .int (Int32.ofInt i_p0_told), .int (Int32.ofInt i_p0_highest), .ref a_p0_tape, .int (Int32.ofInt i_p0_taped), .int (Int32.ofInt i_p0_pos), .int (Int32.ofInt i_p0_from), .int (Int32.ofInt i_p0_sort), .int (Int32.ofInt i_p0_value), .int (Int32.ofInt i_p0_fault), .int (Int32.ofInt i_p0_wrongAt), .ref a_p0_places, .ref a_p0_stirred, .ref a_p0_ways, .ref a_p0_waysThen, .ref a_p0_stays, .ref a_p0_fewest, .ref a_p0_bowls, .ref a_p0_has, .ref a_p0_goesOn, .ref a_p0_isThere, .ref a_p0_isThereThen, .ref a_p0_bestRow, .ref a_p0_lanes, .ref a_p0_sizes, .ref a_p0_cells, .int (Int32.ofInt i_p0_torn)])), (a_p0_tape, .inl (G 1, 320, .inl (zA v_p0_tape)))] H := by rw [hH]; exact hP
  rw [← hH]
  clear hH
  unfold f_X12_look at hf
  refine lv_iload_n hx hb dX12_look_0 rfl (lv_at hl 1 rfl) ?_
  refine lv_aload_n hx hb dX12_look_1 rfl (lv_at hl 0 rfl) ?_
  refine va_get (D := D) (ci := 12) (v := .int (Int32.ofInt i_p0_taped)) (C := RX12) (T := TX12) (N := 37) hx hb hts inX12_look_X12 hown hK hP 0 rfl rfl 14 (by decide) (hts _ mwX12_look_1) (fun _ h9 => h9) rfl dX12_look_2 ?_
  have hr0 := ck_c hf
  replace hf := ck_r hf
  have hr1 := ck_c hf
  replace hf := ck_r hf
  refine lv_icmp_ge (tgt := 17) hx hb dX12_look_5 (by decide) (fun cc => ?_) (fun cc => ?_)
  ·
    replace hf := ite_t ((z_le hr1 hr0).mp cc) hf
    clear cc
    refine lv_iconst (v := Int32.ofInt (-1 : Int)) hx hb dX12_look_17 (by decide) ?_
    obtain rfl := ou1 hf
    rw [hQ]
    exact W.iret hx hb hr (fun t ht hW => ⟨⟨_, (), rfl, rfl, by rw [ht]; exact hP, va_K.moved hW.alike hK, hD⟩, hS.F ht⟩) hS.2.2 dX12_look_18
  ·
    replace hf := ite_f (fun h9 => cc ((z_le hr1 hr0).mpr h9)) hf
    clear cc
    refine lv_aload_n hx hb dX12_look_8 rfl (lv_at hl 0 rfl) ?_
    refine va_get (D := D) (ci := 12) (v := .ref a_p0_tape) (C := RX12) (T := TX12) (N := 37) hx hb hts inX12_look_X12 hown hK hP 0 rfl rfl 13 (by decide) (hts _ mwX12_look_2) (fun _ h9 => h9) rfl dX12_look_9 ?_
    refine lv_iload_n hx hb dX12_look_12 rfl (lv_at hl 1 rfl) ?_
    have hc := ck_c hf
    replace hf := ck_r hf
    refine va_iald hx hb hK hP 1 1 rfl rfl (z_ix_in hc) dX12_look_13 (z_ci (z_ald v_p0_tape hc) ?_)
    clear hc
    refine lv_goto (tgt := 18) hx hb dX12_look_14 (by decide) ?_
    obtain rfl := ou1 hf
    rw [hQ]
    exact W.iret hx hb hr (fun t ht hW => ⟨⟨_, (), rfl, rfl, by rw [ht]; exact hP, va_K.moved hW.alike hK, hD⟩, hS.F ht⟩) hS.2.2 dX12_look_18

noncomputable def f_X12_is (i_p0_taped : Int) (i_p0_pos : Int) (i_p0_from : Int) (v_p0_tape : (Int → Int)) (x1 : Int) (x2 : Int) (x3 : Int) (x4 : Int) : Option (Int) := (ck (z_r32 (i_p0_pos - i_p0_from)) (ck (z_r32 x1) (if (i_p0_pos - i_p0_from) = x1 then (bd1 (f_X12_look i_p0_taped v_p0_tape i_p0_from) (fun (z3 : Int) => (ck (z_r32 z3) (ck (z_r32 x2) (if z3 = x2 then (bd1 (f_X12_look i_p0_taped v_p0_tape (i_p0_from + (1 : Int))) (fun (z6 : Int) => (ck (z_r32 z6) (ck (z_r32 x3) (if z6 = x3 then (bd1 (f_X12_look i_p0_taped v_p0_tape (i_p0_from + (2 : Int))) (fun (z9 : Int) => (ck (z_r32 z9) (ck (z_r32 x4) (if z9 = x4 then (some (1 : Int)) else (some (0 : Int))))))) else (some (0 : Int))))))) else (some (0 : Int))))))) else (some (0 : Int)))))
abbrev rm_X12_is : Room := { frames := 1, cells := 0, slots := 0, locals := 21 }
theorem inX12_is_X12 : ∀ w ∈ wsX120, w ∈ wsX12_is := by first | exact fun w h => List.mem_cons_of_mem _ (List.mem_append_right _ h) | decide +kernel
theorem mwX12_is_1 : Cond.fieldLink RX12 128 "LadleKingsModel" "pos" "I" ∈ wsX12_is := by first | exact List.mem_of_getElem? (i := 1) rfl | decide +kernel
theorem mwX12_is_2 : Cond.fieldLink RX12 122 "LadleKingsModel" "from" "I" ∈ wsX12_is := by first | exact List.mem_of_getElem? (i := 2) rfl | decide +kernel
theorem hdV_yX12_look_RX12 : yX12_look.cls = RX12 ∧ yX12_look.cls ≠ "java/lang/invoke/MethodHandle" ∧ yX12_look.cls ≠ "java/lang/invoke/VarHandle" ∧ (parseMethodDescriptor yX12_look.desc).map (fun d => d.parameters.length) = some 1 := by decide +kernel
set_option maxHeartbeats 8000000 in
set_option maxRecDepth 100000 in
theorem c_X12_is (l : Launch) (D : va_G) (G : Nat → ClassId) (sz : Nat) (a_p0 : Nat) (a_p0_st : Nat) (a_p0_isKept : Nat) (a_p0_brings : Nat) (a_p0_need : Nat) (a_p0_draft : Nat) (a_p0_dStir : Nat) (a_p0_dNeed : Nat) (a_p0_tape : Nat) (a_p0_places : Nat) (a_p0_stirred : Nat) (a_p0_ways : Nat) (a_p0_waysThen : Nat) (a_p0_stays : Nat) (a_p0_fewest : Nat) (a_p0_bowls : Nat) (a_p0_has : Nat) (a_p0_goesOn : Nat) (a_p0_isThere : Nat) (a_p0_isThereThen : Nat) (a_p0_bestRow : Nat) (a_p0_lanes : Nat) (a_p0_sizes : Nat) (a_p0_cells : Nat) (i_p0_seats : Int) (i_p0_stirs : Int) (i_p0_dSeats : Int) (i_p0_dStirs : Int) (i_p0_told : Int) (i_p0_highest : Int) (i_p0_taped : Int) (i_p0_pos : Int) (i_p0_from : Int) (i_p0_sort : Int) (i_p0_value : Int) (i_p0_fault : Int) (i_p0_wrongAt : Int) (i_p0_torn : Int) (v_p0_tape : (Int → Int)) (x1 : Int) (x2 : Int) (x3 : Int) (x4 : Int) (r : Int) (hf : f_X12_is i_p0_taped i_p0_pos i_p0_from v_p0_tape x1 x2 x3 x4 = some r) : Met l yX12_is wsX12_is rm_X12_is (pcG D G [.ref a_p0, .int (Int32.ofInt x1), .int (Int32.ofInt x2), .int (Int32.ofInt x3), .int (Int32.ofInt x4)] sz [(a_p0, .inr (12, [.ref a_p0_st, .ref a_p0_isKept, .int (Int32.ofInt i_p0_seats), .int (Int32.ofInt i_p0_stirs), .ref a_p0_brings, .ref a_p0_need, .ref a_p0_draft, .int (Int32.ofInt i_p0_dSeats), .int (Int32.ofInt i_p0_dStirs), .ref a_p0_dStir, .ref a_p0_dNeed, .int (Int32.ofInt i_p0_told), .int (Int32.ofInt i_p0_highest), .ref a_p0_tape, .int (Int32.ofInt i_p0_taped), .int (Int32.ofInt i_p0_pos), .int (Int32.ofInt i_p0_from), .int (Int32.ofInt i_p0_sort), .int (Int32.ofInt i_p0_value), .int (Int32.ofInt i_p0_fault), .int (Int32.ofInt i_p0_wrongAt), .ref a_p0_places, .ref a_p0_stirred, .ref a_p0_ways, .ref a_p0_waysThen, .ref a_p0_stays, .ref a_p0_fewest, .ref a_p0_bowls, .ref a_p0_has, .ref a_p0_goesOn, .ref a_p0_isThere, .ref a_p0_isThereThen, .ref a_p0_bestRow, .ref a_p0_lanes, .ref a_p0_sizes, .ref a_p0_cells, .int (Int32.ofInt i_p0_torn)])), (a_p0_tape, .inl (G 1, 320, .inl (zA v_p0_tape)))]) (qcI D G (Int32.ofInt r) [(a_p0, .inr (12, [.ref a_p0_st, .ref a_p0_isKept, .int (Int32.ofInt i_p0_seats), .int (Int32.ofInt i_p0_stirs), .ref a_p0_brings, .ref a_p0_need, .ref a_p0_draft, .int (Int32.ofInt i_p0_dSeats), .int (Int32.ofInt i_p0_dStirs), .ref a_p0_dStir, .ref a_p0_dNeed, .int (Int32.ofInt i_p0_told), .int (Int32.ofInt i_p0_highest), .ref a_p0_tape, .int (Int32.ofInt i_p0_taped), .int (Int32.ofInt i_p0_pos), .int (Int32.ofInt i_p0_from), .int (Int32.ofInt i_p0_sort), .int (Int32.ofInt i_p0_value), .int (Int32.ofInt i_p0_fault), .int (Int32.ofInt i_p0_wrongAt), .ref a_p0_places, .ref a_p0_stirred, .ref a_p0_ways, .ref a_p0_waysThen, .ref a_p0_stays, .ref a_p0_fewest, .ref a_p0_bowls, .ref a_p0_has, .ref a_p0_goesOn, .ref a_p0_isThere, .ref a_p0_isThereThen, .ref a_p0_bestRow, .ref a_p0_lanes, .ref a_p0_sizes, .ref a_p0_cells, .int (Int32.ofInt i_p0_torn)])), (a_p0_tape, .inl (G 1, 320, .inl (zA v_p0_tape)))] (va_A [(a_p0, .inr (12, [.ref a_p0_st, .ref a_p0_isKept, .int (Int32.ofInt i_p0_seats), .int (Int32.ofInt i_p0_stirs), .ref a_p0_brings, .ref a_p0_need, .ref a_p0_draft, .int (Int32.ofInt i_p0_dSeats), .int (Int32.ofInt i_p0_dStirs), .ref a_p0_dStir, .ref a_p0_dNeed, .int (Int32.ofInt i_p0_told), .int (Int32.ofInt i_p0_highest), .ref a_p0_tape, .int (Int32.ofInt i_p0_taped), .int (Int32.ofInt i_p0_pos), .int (Int32.ofInt i_p0_from), .int (Int32.ofInt i_p0_sort), .int (Int32.ofInt i_p0_value), .int (Int32.ofInt i_p0_fault), .int (Int32.ofInt i_p0_wrongAt), .ref a_p0_places, .ref a_p0_stirred, .ref a_p0_ways, .ref a_p0_waysThen, .ref a_p0_stays, .ref a_p0_fewest, .ref a_p0_bowls, .ref a_p0_has, .ref a_p0_goesOn, .ref a_p0_isThere, .ref a_p0_isThereThen, .ref a_p0_bestRow, .ref a_p0_lanes, .ref a_p0_sizes, .ref a_p0_cells, .int (Int32.ofInt i_p0_torn)])), (a_p0_tape, .inl (G 1, 320, .inl (zA v_p0_tape)))] sz)) 0 0 (va_A [(a_p0, .inr (12, [.ref a_p0_st, .ref a_p0_isKept, .int (Int32.ofInt i_p0_seats), .int (Int32.ofInt i_p0_stirs), .ref a_p0_brings, .ref a_p0_need, .ref a_p0_draft, .int (Int32.ofInt i_p0_dSeats), .int (Int32.ofInt i_p0_dStirs), .ref a_p0_dStir, .ref a_p0_dNeed, .int (Int32.ofInt i_p0_told), .int (Int32.ofInt i_p0_highest), .ref a_p0_tape, .int (Int32.ofInt i_p0_taped), .int (Int32.ofInt i_p0_pos), .int (Int32.ofInt i_p0_from), .int (Int32.ofInt i_p0_sort), .int (Int32.ofInt i_p0_value), .int (Int32.ofInt i_p0_fault), .int (Int32.ofInt i_p0_wrongAt), .ref a_p0_places, .ref a_p0_stirred, .ref a_p0_ways, .ref a_p0_waysThen, .ref a_p0_stays, .ref a_p0_fewest, .ref a_p0_bowls, .ref a_p0_has, .ref a_p0_goesOn, .ref a_p0_isThere, .ref a_p0_isThereThen, .ref a_p0_bestRow, .ref a_p0_lanes, .ref a_p0_sizes, .ref a_p0_cells, .int (Int32.ofInt i_p0_torn)])), (a_p0_tape, .inl (G 1, 320, .inl (zA v_p0_tape)))] sz) := by
  refine Met.ofW (cc := cX12_is) (maxL := 5) (ret := (some .boolean)) (by decide) rfl ?_
  intro p e s m args below meth c s₁ B hml hv
  obtain ⟨rfl, hsz, hP, hK, hD0⟩ := hv
  have hx := B.exec
  have hb := B.bytes
  have hr := B.returns
  have hts := atoms_spec (ws := wsX12_is) B.pre
  have hown : s.vm.findClass RX12 = some m.cls := findClass_of_methodNamed B.named
  have hlocks := B.notSynchronized
  subst hsz
  have hD := hD0.self (sz := s.heap.size)
  generalize hAe : va_A [(a_p0, .inr (12, [.ref a_p0_st, .ref a_p0_isKept, .int (Int32.ofInt i_p0_seats), .int (Int32.ofInt i_p0_stirs), .ref a_p0_brings, .ref a_p0_need, .ref a_p0_draft, .int (Int32.ofInt i_p0_dSeats), .int (Int32.ofInt i_p0_dStirs), .ref a_p0_dStir, .ref a_p0_dNeed, .int (Int32.ofInt i_p0_told), .int (Int32.ofInt i_p0_highest), .ref a_p0_tape, .int (Int32.ofInt i_p0_taped), .int (Int32.ofInt i_p0_pos), .int (Int32.ofInt i_p0_from), .int (Int32.ofInt i_p0_sort), .int (Int32.ofInt i_p0_value), .int (Int32.ofInt i_p0_fault), .int (Int32.ofInt i_p0_wrongAt), .ref a_p0_places, .ref a_p0_stirred, .ref a_p0_ways, .ref a_p0_waysThen, .ref a_p0_stays, .ref a_p0_fewest, .ref a_p0_bowls, .ref a_p0_has, .ref a_p0_goesOn, .ref a_p0_isThere, .ref a_p0_isThereThen, .ref a_p0_bestRow, .ref a_p0_lanes, .ref a_p0_sizes, .ref a_p0_cells, .int (Int32.ofInt i_p0_torn)])), (a_p0_tape, .inl (G 1, 320, .inl (zA v_p0_tape)))] s.heap.size = A at hD ⊢
  have hA : ∀ q : Nat, s.heap.size ≤ q → A q := fun q h => by rw [← hAe]; exact Or.inr h
  clear hAe hD0
  have hS : va_S A s.heap s.heap [] := va_S.rf
  have hl := lv_entry ([.ref a_p0, .int (Int32.ofInt x1), .int (Int32.ofInt x2), .int (Int32.ofInt x3), .int (Int32.ofInt x4)]) (n := 5) (Nat.le_of_ble_eq_true rfl)
  rw [lg_entry_eq]
  generalize (lg_sl ([.ref a_p0, .int (Int32.ofInt x1), .int (Int32.ofInt x2), .int (Int32.ofInt x3), .int (Int32.ofInt x4)]) ++ List.replicate (5 - (lg_sl ([.ref a_p0, .int (Int32.ofInt x1), .int (Int32.ofInt x2), .int (Int32.ofInt x3), .int (Int32.ofInt x4)])).length) Slot.unset).toArray = ls at hl ⊢
  have hl : lv_has ls 5 [(0, .ref a_p0), (1, .int (Int32.ofInt x1)), (2, .int (Int32.ofInt x2)), (3, .int (Int32.ofInt x3)), (4, .int (Int32.ofInt x4))] := hl
  refine W_nameQ (fun Q hQ => ?_)
  obtain ⟨H, hH⟩ : ∃ H, H = s.heap := ⟨_, rfl⟩
  replace hS : va_S A s.heap H [] := by rw [hH]; exact hS
  replace hP : va_P D vwCl [(a_p0, .inr (12, [.ref a_p0_st, .ref a_p0_isKept, .int (Int32.ofInt i_p0_seats), .int (Int32.ofInt i_p0_stirs), .ref a_p0_brings, .ref a_p0_need, .ref a_p0_draft, .int (Int32.ofInt i_p0_dSeats), .int (Int32.ofInt i_p0_dStirs), .ref a_p0_dStir, .ref a_p0_dNeed, .int (Int32.ofInt i_p0_told), .int (Int32.ofInt i_p0_highest), .ref a_p0_tape, .int (Int32.ofInt i_p0_taped), .int (Int32.ofInt i_p0_pos), .int (Int32.ofInt i_p0_from), .int (Int32.ofInt i_p0_sort), .int (Int32.ofInt i_p0_value), .int (Int32.ofInt i_p0_fault), .int (Int32.ofInt i_p0_wrongAt), .ref a_p0_places, .ref a_p0_stirred, .ref a_p0_ways, .ref a_p0_waysThen, .ref a_p0_stays, .ref a_p0_fewest, .ref a_p0_bowls, .ref a_p0_has, .ref a_p0_goesOn, .ref a_p0_isThere, .ref a_p0_isThereThen, .ref a_p0_bestRow, .ref a_p0_lanes, .ref a_p0_sizes, .ref a_p0_cells, .int (Int32.ofInt i_p0_torn)])), (a_p0_tape, .inl (G 1, 320, .inl (zA v_p0_tape)))] H := by rw [hH]; exact hP
  rw [← hH]
  clear hH
  unfold f_X12_is at hf
  refine lv_aload_n hx hb dX12_is_0 rfl (lv_at hl 0 rfl) ?_
  refine va_get (D := D) (ci := 12) (v := .int (Int32.ofInt i_p0_pos)) (C := RX12) (T := TX12) (N := 37) hx hb hts inX12_is_X12 hown hK hP 0 rfl rfl 15 (by decide) (hts _ mwX12_is_1) (fun _ h9 => h9) rfl dX12_is_1 ?_
  refine lv_aload_n hx hb dX12_is_4 rfl (lv_at hl 0 rfl) ?_
  refine va_get (D := D) (ci := 12) (v := .int (Int32.ofInt i_p0_from)) (C := RX12) (T := TX12) (N := 37) hx hb hts inX12_is_X12 hown hK hP 0 rfl rfl 16 (by decide) (hts _ mwX12_is_2) (fun _ h9 => h9) rfl dX12_is_5 ?_
  refine lv_isub hx hb dX12_is_8 (z_ci (Int32.ofInt_sub i_p0_pos i_p0_from) ?_)
  refine lv_iload_n hx hb dX12_is_9 rfl (lv_at hl 1 rfl) ?_
  have hr0 := ck_c hf
  replace hf := ck_r hf
  have hr1 := ck_c hf
  replace hf := ck_r hf
  refine lv_icmp_ne (tgt := 58) hx hb dX12_is_10 (by decide) (fun cc => ?_) (fun cc => ?_)
  ·
    replace hf := ite_f (fun h9 => cc ((z_eq hr0 hr1).mpr h9)) hf
    clear cc
    refine lv_iconst (v := Int32.ofInt (0 : Int)) hx hb dX12_is_58 (by decide) ?_
    obtain rfl := ou1 hf
    rw [hQ]
    exact W.zret hx hb hr rfl (fun t ht hW => ⟨⟨_, (), rfl, rfl, by rw [ht]; exact hP, va_K.moved hW.alike hK, hD⟩, hS.F ht⟩) hS.2.2 dX12_is_59
  ·
    replace hf := ite_t ((z_eq hr0 hr1).mp cc) hf
    clear cc
    refine lv_aload_n hx hb dX12_is_13 rfl (lv_at hl 0 rfl) ?_
    refine lv_aload_n hx hb dX12_is_14 rfl (lv_at hl 0 rfl) ?_
    refine va_get (D := D) (ci := 12) (v := .int (Int32.ofInt i_p0_from)) (C := RX12) (T := TX12) (N := 37) hx hb hts inX12_is_X12 hown hK hP 0 rfl rfl 16 (by decide) (hts _ mwX12_is_2) (fun _ h9 => h9) rfl dX12_is_15 ?_
    have hq := bd1_s hf
    clear hf
    obtain ⟨z3, hcall, hf⟩ := hq
    refine gnI (va_runV (As := [.int (Int32.ofInt i_p0_from)]) (rest := []) ⟨hx, hb, hml, hown, hts⟩ (c_X12_look (l := l) (D := D) (G := G) (sz := H.size) (a_p0 := a_p0) (a_p0_st := a_p0_st) (a_p0_isKept := a_p0_isKept) (a_p0_brings := a_p0_brings) (a_p0_need := a_p0_need) (a_p0_draft := a_p0_draft) (a_p0_dStir := a_p0_dStir) (a_p0_dNeed := a_p0_dNeed) (a_p0_tape := a_p0_tape) (a_p0_places := a_p0_places) (a_p0_stirred := a_p0_stirred) (a_p0_ways := a_p0_ways) (a_p0_waysThen := a_p0_waysThen) (a_p0_stays := a_p0_stays) (a_p0_fewest := a_p0_fewest) (a_p0_bowls := a_p0_bowls) (a_p0_has := a_p0_has) (a_p0_goesOn := a_p0_goesOn) (a_p0_isThere := a_p0_isThere) (a_p0_isThereThen := a_p0_isThereThen) (a_p0_bestRow := a_p0_bestRow) (a_p0_lanes := a_p0_lanes) (a_p0_sizes := a_p0_sizes) (a_p0_cells := a_p0_cells) (i_p0_seats := i_p0_seats) (i_p0_stirs := i_p0_stirs) (i_p0_dSeats := i_p0_dSeats) (i_p0_dStirs := i_p0_dStirs) (i_p0_told := i_p0_told) (i_p0_highest := i_p0_highest) (i_p0_taped := i_p0_taped) (i_p0_pos := i_p0_pos) (i_p0_from := i_p0_from) (i_p0_sort := i_p0_sort) (i_p0_value := i_p0_value) (i_p0_fault := i_p0_fault) (i_p0_wrongAt := i_p0_wrongAt) (i_p0_torn := i_p0_torn) (v_p0_tape := v_p0_tape) (x1 := i_p0_from) (r := z3) (hf := hcall)) (cwV 1 hts gX12_is_X12_look rfl rfl rfl hdV_yX12_look_RX12 ⟨Nat.le_of_ble_eq_true rfl, Nat.le_of_ble_eq_true rfl⟩) (preG_V (ci := 12) (q := (RX12, TX12, 37)) (hP.sub [0, 1] rfl) (hD.sub [0, 1] rfl rfl) hK rfl rfl) rfl rfl hl.1 rfl (lv_room (Nat.le_of_ble_eq_true rfl)) dX12_is_18 ⟨Nat.le_of_ble_eq_true rfl, Nat.le_of_ble_eq_true rfl⟩) hP hD hS hA [0, 1] rfl (fun H locs hP hD hS => ?_)
    clear hcall
    refine lv_iload_n hx hb dX12_is_21 rfl (lv_at hl 2 rfl) ?_
    have hr3 := ck_c hf
    replace hf := ck_r hf
    have hr4 := ck_c hf
    replace hf := ck_r hf
    refine lv_icmp_ne (tgt := 58) hx hb dX12_is_22 (by decide) (fun cc => ?_) (fun cc => ?_)
    ·
      replace hf := ite_f (fun h9 => cc ((z_eq hr3 hr4).mpr h9)) hf
      clear cc
      refine lv_iconst (v := Int32.ofInt (0 : Int)) hx hb dX12_is_58 (by decide) ?_
      obtain rfl := ou1 hf
      rw [hQ]
      exact W.zret hx hb hr rfl (fun t ht hW => ⟨⟨_, (), rfl, rfl, by rw [ht]; exact hP, va_K.moved hW.alike hK, hD⟩, hS.F ht⟩) hS.2.2 dX12_is_59
    ·
      replace hf := ite_t ((z_eq hr3 hr4).mp cc) hf
      clear cc
      refine lv_aload_n hx hb dX12_is_25 rfl (lv_at hl 0 rfl) ?_
      refine lv_aload_n hx hb dX12_is_26 rfl (lv_at hl 0 rfl) ?_
      refine va_get (D := D) (ci := 12) (v := .int (Int32.ofInt i_p0_from)) (C := RX12) (T := TX12) (N := 37) hx hb hts inX12_is_X12 hown hK hP 0 rfl rfl 16 (by decide) (hts _ mwX12_is_2) (fun _ h9 => h9) rfl dX12_is_27 ?_
      refine lv_iconst (v := Int32.ofInt (1 : Int)) hx hb dX12_is_30 (by decide) ?_
      refine lv_iadd hx hb dX12_is_31 (z_ci (Int32.ofInt_add i_p0_from (1 : Int)) ?_)
      have hq := bd1_s hf
      clear hf
      obtain ⟨z6, hcall, hf⟩ := hq
      refine gnI (va_runV (As := [.int (Int32.ofInt (i_p0_from + (1 : Int)))]) (rest := []) ⟨hx, hb, hml, hown, hts⟩ (c_X12_look (l := l) (D := D) (G := G) (sz := H.size) (a_p0 := a_p0) (a_p0_st := a_p0_st) (a_p0_isKept := a_p0_isKept) (a_p0_brings := a_p0_brings) (a_p0_need := a_p0_need) (a_p0_draft := a_p0_draft) (a_p0_dStir := a_p0_dStir) (a_p0_dNeed := a_p0_dNeed) (a_p0_tape := a_p0_tape) (a_p0_places := a_p0_places) (a_p0_stirred := a_p0_stirred) (a_p0_ways := a_p0_ways) (a_p0_waysThen := a_p0_waysThen) (a_p0_stays := a_p0_stays) (a_p0_fewest := a_p0_fewest) (a_p0_bowls := a_p0_bowls) (a_p0_has := a_p0_has) (a_p0_goesOn := a_p0_goesOn) (a_p0_isThere := a_p0_isThere) (a_p0_isThereThen := a_p0_isThereThen) (a_p0_bestRow := a_p0_bestRow) (a_p0_lanes := a_p0_lanes) (a_p0_sizes := a_p0_sizes) (a_p0_cells := a_p0_cells) (i_p0_seats := i_p0_seats) (i_p0_stirs := i_p0_stirs) (i_p0_dSeats := i_p0_dSeats) (i_p0_dStirs := i_p0_dStirs) (i_p0_told := i_p0_told) (i_p0_highest := i_p0_highest) (i_p0_taped := i_p0_taped) (i_p0_pos := i_p0_pos) (i_p0_from := i_p0_from) (i_p0_sort := i_p0_sort) (i_p0_value := i_p0_value) (i_p0_fault := i_p0_fault) (i_p0_wrongAt := i_p0_wrongAt) (i_p0_torn := i_p0_torn) (v_p0_tape := v_p0_tape) (x1 := (i_p0_from + (1 : Int))) (r := z6) (hf := hcall)) (cwV 1 hts gX12_is_X12_look rfl rfl rfl hdV_yX12_look_RX12 ⟨Nat.le_of_ble_eq_true rfl, Nat.le_of_ble_eq_true rfl⟩) (preG_V (ci := 12) (q := (RX12, TX12, 37)) (hP.sub [0, 1] rfl) (hD.sub [0, 1] rfl rfl) hK rfl rfl) rfl rfl hl.1 rfl (lv_room (Nat.le_of_ble_eq_true rfl)) dX12_is_32 ⟨Nat.le_of_ble_eq_true rfl, Nat.le_of_ble_eq_true rfl⟩) hP hD hS hA [0, 1] rfl (fun H locs hP hD hS => ?_)
      clear hcall
      refine lv_iload_n hx hb dX12_is_35 rfl (lv_at hl 3 rfl) ?_
      have hr6 := ck_c hf
      replace hf := ck_r hf
      have hr7 := ck_c hf
      replace hf := ck_r hf
      refine lv_icmp_ne (tgt := 58) hx hb dX12_is_36 (by decide) (fun cc => ?_) (fun cc => ?_)
      ·
        replace hf := ite_f (fun h9 => cc ((z_eq hr6 hr7).mpr h9)) hf
        clear cc
        refine lv_iconst (v := Int32.ofInt (0 : Int)) hx hb dX12_is_58 (by decide) ?_
        obtain rfl := ou1 hf
        rw [hQ]
        exact W.zret hx hb hr rfl (fun t ht hW => ⟨⟨_, (), rfl, rfl, by rw [ht]; exact hP, va_K.moved hW.alike hK, hD⟩, hS.F ht⟩) hS.2.2 dX12_is_59
      ·
        replace hf := ite_t ((z_eq hr6 hr7).mp cc) hf
        clear cc
        refine lv_aload_n hx hb dX12_is_39 rfl (lv_at hl 0 rfl) ?_
        refine lv_aload_n hx hb dX12_is_40 rfl (lv_at hl 0 rfl) ?_
        refine va_get (D := D) (ci := 12) (v := .int (Int32.ofInt i_p0_from)) (C := RX12) (T := TX12) (N := 37) hx hb hts inX12_is_X12 hown hK hP 0 rfl rfl 16 (by decide) (hts _ mwX12_is_2) (fun _ h9 => h9) rfl dX12_is_41 ?_
        refine lv_iconst (v := Int32.ofInt (2 : Int)) hx hb dX12_is_44 (by decide) ?_
        refine lv_iadd hx hb dX12_is_45 (z_ci (Int32.ofInt_add i_p0_from (2 : Int)) ?_)
        have hq := bd1_s hf
        clear hf
        obtain ⟨z9, hcall, hf⟩ := hq
        refine gnI (va_runV (As := [.int (Int32.ofInt (i_p0_from + (2 : Int)))]) (rest := []) ⟨hx, hb, hml, hown, hts⟩ (c_X12_look (l := l) (D := D) (G := G) (sz := H.size) (a_p0 := a_p0) (a_p0_st := a_p0_st) (a_p0_isKept := a_p0_isKept) (a_p0_brings := a_p0_brings) (a_p0_need := a_p0_need) (a_p0_draft := a_p0_draft) (a_p0_dStir := a_p0_dStir) (a_p0_dNeed := a_p0_dNeed) (a_p0_tape := a_p0_tape) (a_p0_places := a_p0_places) (a_p0_stirred := a_p0_stirred) (a_p0_ways := a_p0_ways) (a_p0_waysThen := a_p0_waysThen) (a_p0_stays := a_p0_stays) (a_p0_fewest := a_p0_fewest) (a_p0_bowls := a_p0_bowls) (a_p0_has := a_p0_has) (a_p0_goesOn := a_p0_goesOn) (a_p0_isThere := a_p0_isThere) (a_p0_isThereThen := a_p0_isThereThen) (a_p0_bestRow := a_p0_bestRow) (a_p0_lanes := a_p0_lanes) (a_p0_sizes := a_p0_sizes) (a_p0_cells := a_p0_cells) (i_p0_seats := i_p0_seats) (i_p0_stirs := i_p0_stirs) (i_p0_dSeats := i_p0_dSeats) (i_p0_dStirs := i_p0_dStirs) (i_p0_told := i_p0_told) (i_p0_highest := i_p0_highest) (i_p0_taped := i_p0_taped) (i_p0_pos := i_p0_pos) (i_p0_from := i_p0_from) (i_p0_sort := i_p0_sort) (i_p0_value := i_p0_value) (i_p0_fault := i_p0_fault) (i_p0_wrongAt := i_p0_wrongAt) (i_p0_torn := i_p0_torn) (v_p0_tape := v_p0_tape) (x1 := (i_p0_from + (2 : Int))) (r := z9) (hf := hcall)) (cwV 1 hts gX12_is_X12_look rfl rfl rfl hdV_yX12_look_RX12 ⟨Nat.le_of_ble_eq_true rfl, Nat.le_of_ble_eq_true rfl⟩) (preG_V (ci := 12) (q := (RX12, TX12, 37)) (hP.sub [0, 1] rfl) (hD.sub [0, 1] rfl rfl) hK rfl rfl) rfl rfl hl.1 rfl (lv_room (Nat.le_of_ble_eq_true rfl)) dX12_is_46 ⟨Nat.le_of_ble_eq_true rfl, Nat.le_of_ble_eq_true rfl⟩) hP hD hS hA [0, 1] rfl (fun H locs hP hD hS => ?_)
        clear hcall
        refine lv_iload hx hb dX12_is_49 (lv_at hl 4 rfl) ?_
        have hr9 := ck_c hf
        replace hf := ck_r hf
        have hr10 := ck_c hf
        replace hf := ck_r hf
        refine lv_icmp_ne (tgt := 58) hx hb dX12_is_51 (by decide) (fun cc => ?_) (fun cc => ?_)
        ·
          replace hf := ite_f (fun h9 => cc ((z_eq hr9 hr10).mpr h9)) hf
          clear cc
          refine lv_iconst (v := Int32.ofInt (0 : Int)) hx hb dX12_is_58 (by decide) ?_
          obtain rfl := ou1 hf
          rw [hQ]
          exact W.zret hx hb hr rfl (fun t ht hW => ⟨⟨_, (), rfl, rfl, by rw [ht]; exact hP, va_K.moved hW.alike hK, hD⟩, hS.F ht⟩) hS.2.2 dX12_is_59
        ·
          replace hf := ite_t ((z_eq hr9 hr10).mp cc) hf
          clear cc
          refine lv_iconst (v := Int32.ofInt (1 : Int)) hx hb dX12_is_54 (by decide) ?_
          refine lv_goto (tgt := 59) hx hb dX12_is_55 (by decide) ?_
          obtain rfl := ou1 hf
          rw [hQ]
          exact W.zret hx hb hr rfl (fun t ht hW => ⟨⟨_, (), rfl, rfl, by rw [ht]; exact hP, va_K.moved hW.alike hK, hD⟩, hS.F ht⟩) hS.2.2 dX12_is_59

noncomputable def f_X12_ends (i_p0_taped : Int) (i_p0_from : Int) (v_p0_tape : (Int → Int)) (x1 : Int) (x2 : Int) (x3 : Int) : Option (Int) := (bd1 (f_X12_look i_p0_taped v_p0_tape (i_p0_from + (3 : Int))) (fun (z1 : Int) => (ck (z_r32 z1) (ck (z_r32 x1) (if z1 = x1 then (ck (z_r32 x2) (jn (ck (z_r32 x3) (if x3 = (0 : Int) then (some (1 : Int)) else (bd1 (f_X12_look i_p0_taped v_p0_tape (i_p0_from + (5 : Int))) (fun (z7 : Int) => (ck (z_r32 z7) (if z7 = x3 then (some (1 : Int)) else (some (0 : Int)))))))) (fun (J5 : Option (Int)) => (if x2 = (0 : Int) then (J5) else (bd1 (f_X12_look i_p0_taped v_p0_tape (i_p0_from + (4 : Int))) (fun (z9 : Int) => (ck (z_r32 z9) (if z9 = x2 then (J5) else (some (0 : Int)))))))))) else (some (0 : Int)))))))
abbrev rm_X12_ends : Room := { frames := 1, cells := 0, slots := 0, locals := 21 }
theorem inX12_ends_X12 : ∀ w ∈ wsX120, w ∈ wsX12_ends := by first | exact fun w h => List.mem_cons_of_mem _ (List.mem_append_right _ h) | decide +kernel
theorem mwX12_ends_1 : Cond.fieldLink RX12 122 "LadleKingsModel" "from" "I" ∈ wsX12_ends := by first | exact List.mem_of_getElem? (i := 1) rfl | decide +kernel
set_option maxHeartbeats 8000000 in
set_option maxRecDepth 100000 in
theorem c_X12_ends (l : Launch) (D : va_G) (G : Nat → ClassId) (sz : Nat) (a_p0 : Nat) (a_p0_st : Nat) (a_p0_isKept : Nat) (a_p0_brings : Nat) (a_p0_need : Nat) (a_p0_draft : Nat) (a_p0_dStir : Nat) (a_p0_dNeed : Nat) (a_p0_tape : Nat) (a_p0_places : Nat) (a_p0_stirred : Nat) (a_p0_ways : Nat) (a_p0_waysThen : Nat) (a_p0_stays : Nat) (a_p0_fewest : Nat) (a_p0_bowls : Nat) (a_p0_has : Nat) (a_p0_goesOn : Nat) (a_p0_isThere : Nat) (a_p0_isThereThen : Nat) (a_p0_bestRow : Nat) (a_p0_lanes : Nat) (a_p0_sizes : Nat) (a_p0_cells : Nat) (i_p0_seats : Int) (i_p0_stirs : Int) (i_p0_dSeats : Int) (i_p0_dStirs : Int) (i_p0_told : Int) (i_p0_highest : Int) (i_p0_taped : Int) (i_p0_pos : Int) (i_p0_from : Int) (i_p0_sort : Int) (i_p0_value : Int) (i_p0_fault : Int) (i_p0_wrongAt : Int) (i_p0_torn : Int) (v_p0_tape : (Int → Int)) (x1 : Int) (x2 : Int) (x3 : Int) (r : Int) (hf : f_X12_ends i_p0_taped i_p0_from v_p0_tape x1 x2 x3 = some r) : Met l yX12_ends wsX12_ends rm_X12_ends (pcG D G [.ref a_p0, .int (Int32.ofInt x1), .int (Int32.ofInt x2), .int (Int32.ofInt x3)] sz [(a_p0, .inr (12, [.ref a_p0_st, .ref a_p0_isKept, .int (Int32.ofInt i_p0_seats), .int (Int32.ofInt i_p0_stirs), .ref a_p0_brings, .ref a_p0_need, .ref a_p0_draft, .int (Int32.ofInt i_p0_dSeats), .int (Int32.ofInt i_p0_dStirs), .ref a_p0_dStir, .ref a_p0_dNeed, .int (Int32.ofInt i_p0_told), .int (Int32.ofInt i_p0_highest), .ref a_p0_tape, .int (Int32.ofInt i_p0_taped), .int (Int32.ofInt i_p0_pos), .int (Int32.ofInt i_p0_from), .int (Int32.ofInt i_p0_sort), .int (Int32.ofInt i_p0_value), .int (Int32.ofInt i_p0_fault), .int (Int32.ofInt i_p0_wrongAt), .ref a_p0_places, .ref a_p0_stirred, .ref a_p0_ways, .ref a_p0_waysThen, .ref a_p0_stays, .ref a_p0_fewest, .ref a_p0_bowls, .ref a_p0_has, .ref a_p0_goesOn, .ref a_p0_isThere, .ref a_p0_isThereThen, .ref a_p0_bestRow, .ref a_p0_lanes, .ref a_p0_sizes, .ref a_p0_cells, .int (Int32.ofInt i_p0_torn)])), (a_p0_tape, .inl (G 1, 320, .inl (zA v_p0_tape)))]) (qcI D G (Int32.ofInt r) [(a_p0, .inr (12, [.ref a_p0_st, .ref a_p0_isKept, .int (Int32.ofInt i_p0_seats), .int (Int32.ofInt i_p0_stirs), .ref a_p0_brings, .ref a_p0_need, .ref a_p0_draft, .int (Int32.ofInt i_p0_dSeats), .int (Int32.ofInt i_p0_dStirs), .ref a_p0_dStir, .ref a_p0_dNeed, .int (Int32.ofInt i_p0_told), .int (Int32.ofInt i_p0_highest), .ref a_p0_tape, .int (Int32.ofInt i_p0_taped), .int (Int32.ofInt i_p0_pos), .int (Int32.ofInt i_p0_from), .int (Int32.ofInt i_p0_sort), .int (Int32.ofInt i_p0_value), .int (Int32.ofInt i_p0_fault), .int (Int32.ofInt i_p0_wrongAt), .ref a_p0_places, .ref a_p0_stirred, .ref a_p0_ways, .ref a_p0_waysThen, .ref a_p0_stays, .ref a_p0_fewest, .ref a_p0_bowls, .ref a_p0_has, .ref a_p0_goesOn, .ref a_p0_isThere, .ref a_p0_isThereThen, .ref a_p0_bestRow, .ref a_p0_lanes, .ref a_p0_sizes, .ref a_p0_cells, .int (Int32.ofInt i_p0_torn)])), (a_p0_tape, .inl (G 1, 320, .inl (zA v_p0_tape)))] (va_A [(a_p0, .inr (12, [.ref a_p0_st, .ref a_p0_isKept, .int (Int32.ofInt i_p0_seats), .int (Int32.ofInt i_p0_stirs), .ref a_p0_brings, .ref a_p0_need, .ref a_p0_draft, .int (Int32.ofInt i_p0_dSeats), .int (Int32.ofInt i_p0_dStirs), .ref a_p0_dStir, .ref a_p0_dNeed, .int (Int32.ofInt i_p0_told), .int (Int32.ofInt i_p0_highest), .ref a_p0_tape, .int (Int32.ofInt i_p0_taped), .int (Int32.ofInt i_p0_pos), .int (Int32.ofInt i_p0_from), .int (Int32.ofInt i_p0_sort), .int (Int32.ofInt i_p0_value), .int (Int32.ofInt i_p0_fault), .int (Int32.ofInt i_p0_wrongAt), .ref a_p0_places, .ref a_p0_stirred, .ref a_p0_ways, .ref a_p0_waysThen, .ref a_p0_stays, .ref a_p0_fewest, .ref a_p0_bowls, .ref a_p0_has, .ref a_p0_goesOn, .ref a_p0_isThere, .ref a_p0_isThereThen, .ref a_p0_bestRow, .ref a_p0_lanes, .ref a_p0_sizes, .ref a_p0_cells, .int (Int32.ofInt i_p0_torn)])), (a_p0_tape, .inl (G 1, 320, .inl (zA v_p0_tape)))] sz)) 0 0 (va_A [(a_p0, .inr (12, [.ref a_p0_st, .ref a_p0_isKept, .int (Int32.ofInt i_p0_seats), .int (Int32.ofInt i_p0_stirs), .ref a_p0_brings, .ref a_p0_need, .ref a_p0_draft, .int (Int32.ofInt i_p0_dSeats), .int (Int32.ofInt i_p0_dStirs), .ref a_p0_dStir, .ref a_p0_dNeed, .int (Int32.ofInt i_p0_told), .int (Int32.ofInt i_p0_highest), .ref a_p0_tape, .int (Int32.ofInt i_p0_taped), .int (Int32.ofInt i_p0_pos), .int (Int32.ofInt i_p0_from), .int (Int32.ofInt i_p0_sort), .int (Int32.ofInt i_p0_value), .int (Int32.ofInt i_p0_fault), .int (Int32.ofInt i_p0_wrongAt), .ref a_p0_places, .ref a_p0_stirred, .ref a_p0_ways, .ref a_p0_waysThen, .ref a_p0_stays, .ref a_p0_fewest, .ref a_p0_bowls, .ref a_p0_has, .ref a_p0_goesOn, .ref a_p0_isThere, .ref a_p0_isThereThen, .ref a_p0_bestRow, .ref a_p0_lanes, .ref a_p0_sizes, .ref a_p0_cells, .int (Int32.ofInt i_p0_torn)])), (a_p0_tape, .inl (G 1, 320, .inl (zA v_p0_tape)))] sz) := by
  refine Met.ofW (cc := cX12_ends) (maxL := 4) (ret := (some .boolean)) (by decide) rfl ?_
  intro p e s m args below meth c s₁ B hml hv
  obtain ⟨rfl, hsz, hP, hK, hD0⟩ := hv
  have hx := B.exec
  have hb := B.bytes
  have hr := B.returns
  have hts := atoms_spec (ws := wsX12_ends) B.pre
  have hown : s.vm.findClass RX12 = some m.cls := findClass_of_methodNamed B.named
  have hlocks := B.notSynchronized
  subst hsz
  have hD := hD0.self (sz := s.heap.size)
  generalize hAe : va_A [(a_p0, .inr (12, [.ref a_p0_st, .ref a_p0_isKept, .int (Int32.ofInt i_p0_seats), .int (Int32.ofInt i_p0_stirs), .ref a_p0_brings, .ref a_p0_need, .ref a_p0_draft, .int (Int32.ofInt i_p0_dSeats), .int (Int32.ofInt i_p0_dStirs), .ref a_p0_dStir, .ref a_p0_dNeed, .int (Int32.ofInt i_p0_told), .int (Int32.ofInt i_p0_highest), .ref a_p0_tape, .int (Int32.ofInt i_p0_taped), .int (Int32.ofInt i_p0_pos), .int (Int32.ofInt i_p0_from), .int (Int32.ofInt i_p0_sort), .int (Int32.ofInt i_p0_value), .int (Int32.ofInt i_p0_fault), .int (Int32.ofInt i_p0_wrongAt), .ref a_p0_places, .ref a_p0_stirred, .ref a_p0_ways, .ref a_p0_waysThen, .ref a_p0_stays, .ref a_p0_fewest, .ref a_p0_bowls, .ref a_p0_has, .ref a_p0_goesOn, .ref a_p0_isThere, .ref a_p0_isThereThen, .ref a_p0_bestRow, .ref a_p0_lanes, .ref a_p0_sizes, .ref a_p0_cells, .int (Int32.ofInt i_p0_torn)])), (a_p0_tape, .inl (G 1, 320, .inl (zA v_p0_tape)))] s.heap.size = A at hD ⊢
  have hA : ∀ q : Nat, s.heap.size ≤ q → A q := fun q h => by rw [← hAe]; exact Or.inr h
  clear hAe hD0
  have hS : va_S A s.heap s.heap [] := va_S.rf
  have hl := lv_entry ([.ref a_p0, .int (Int32.ofInt x1), .int (Int32.ofInt x2), .int (Int32.ofInt x3)]) (n := 4) (Nat.le_of_ble_eq_true rfl)
  rw [lg_entry_eq]
  generalize (lg_sl ([.ref a_p0, .int (Int32.ofInt x1), .int (Int32.ofInt x2), .int (Int32.ofInt x3)]) ++ List.replicate (4 - (lg_sl ([.ref a_p0, .int (Int32.ofInt x1), .int (Int32.ofInt x2), .int (Int32.ofInt x3)])).length) Slot.unset).toArray = ls at hl ⊢
  have hl : lv_has ls 4 [(0, .ref a_p0), (1, .int (Int32.ofInt x1)), (2, .int (Int32.ofInt x2)), (3, .int (Int32.ofInt x3))] := hl
  refine W_nameQ (fun Q hQ => ?_)
  obtain ⟨H, hH⟩ : ∃ H, H = s.heap := ⟨_, rfl⟩
  replace hS : va_S A s.heap H [] := by rw [hH]; exact hS
  replace hP : va_P D vwCl [(a_p0, .inr (12, [.ref a_p0_st, .ref a_p0_isKept, .int (Int32.ofInt i_p0_seats), .int (Int32.ofInt i_p0_stirs), .ref a_p0_brings, .ref a_p0_need, .ref a_p0_draft, .int (Int32.ofInt i_p0_dSeats), .int (Int32.ofInt i_p0_dStirs), .ref a_p0_dStir, .ref a_p0_dNeed, .int (Int32.ofInt i_p0_told), .int (Int32.ofInt i_p0_highest), .ref a_p0_tape, .int (Int32.ofInt i_p0_taped), .int (Int32.ofInt i_p0_pos), .int (Int32.ofInt i_p0_from), .int (Int32.ofInt i_p0_sort), .int (Int32.ofInt i_p0_value), .int (Int32.ofInt i_p0_fault), .int (Int32.ofInt i_p0_wrongAt), .ref a_p0_places, .ref a_p0_stirred, .ref a_p0_ways, .ref a_p0_waysThen, .ref a_p0_stays, .ref a_p0_fewest, .ref a_p0_bowls, .ref a_p0_has, .ref a_p0_goesOn, .ref a_p0_isThere, .ref a_p0_isThereThen, .ref a_p0_bestRow, .ref a_p0_lanes, .ref a_p0_sizes, .ref a_p0_cells, .int (Int32.ofInt i_p0_torn)])), (a_p0_tape, .inl (G 1, 320, .inl (zA v_p0_tape)))] H := by rw [hH]; exact hP
  rw [← hH]
  clear hH
  unfold f_X12_ends at hf
  refine lv_aload_n hx hb dX12_ends_0 rfl (lv_at hl 0 rfl) ?_
  refine lv_aload_n hx hb dX12_ends_1 rfl (lv_at hl 0 rfl) ?_
  refine va_get (D := D) (ci := 12) (v := .int (Int32.ofInt i_p0_from)) (C := RX12) (T := TX12) (N := 37) hx hb hts inX12_ends_X12 hown hK hP 0 rfl rfl 16 (by decide) (hts _ mwX12_ends_1) (fun _ h9 => h9) rfl dX12_ends_2 ?_
  refine lv_iconst (v := Int32.ofInt (3 : Int)) hx hb dX12_ends_5 (by decide) ?_
  refine lv_iadd hx hb dX12_ends_6 (z_ci (Int32.ofInt_add i_p0_from (3 : Int)) ?_)
  have hq := bd1_s hf
  clear hf
  obtain ⟨z1, hcall, hf⟩ := hq
  refine gnI (va_runV (As := [.int (Int32.ofInt (i_p0_from + (3 : Int)))]) (rest := []) ⟨hx, hb, hml, hown, hts⟩ (c_X12_look (l := l) (D := D) (G := G) (sz := H.size) (a_p0 := a_p0) (a_p0_st := a_p0_st) (a_p0_isKept := a_p0_isKept) (a_p0_brings := a_p0_brings) (a_p0_need := a_p0_need) (a_p0_draft := a_p0_draft) (a_p0_dStir := a_p0_dStir) (a_p0_dNeed := a_p0_dNeed) (a_p0_tape := a_p0_tape) (a_p0_places := a_p0_places) (a_p0_stirred := a_p0_stirred) (a_p0_ways := a_p0_ways) (a_p0_waysThen := a_p0_waysThen) (a_p0_stays := a_p0_stays) (a_p0_fewest := a_p0_fewest) (a_p0_bowls := a_p0_bowls) (a_p0_has := a_p0_has) (a_p0_goesOn := a_p0_goesOn) (a_p0_isThere := a_p0_isThere) (a_p0_isThereThen := a_p0_isThereThen) (a_p0_bestRow := a_p0_bestRow) (a_p0_lanes := a_p0_lanes) (a_p0_sizes := a_p0_sizes) (a_p0_cells := a_p0_cells) (i_p0_seats := i_p0_seats) (i_p0_stirs := i_p0_stirs) (i_p0_dSeats := i_p0_dSeats) (i_p0_dStirs := i_p0_dStirs) (i_p0_told := i_p0_told) (i_p0_highest := i_p0_highest) (i_p0_taped := i_p0_taped) (i_p0_pos := i_p0_pos) (i_p0_from := i_p0_from) (i_p0_sort := i_p0_sort) (i_p0_value := i_p0_value) (i_p0_fault := i_p0_fault) (i_p0_wrongAt := i_p0_wrongAt) (i_p0_torn := i_p0_torn) (v_p0_tape := v_p0_tape) (x1 := (i_p0_from + (3 : Int))) (r := z1) (hf := hcall)) (cwV 1 hts gX12_ends_X12_look rfl rfl rfl hdV_yX12_look_RX12 ⟨Nat.le_of_ble_eq_true rfl, Nat.le_of_ble_eq_true rfl⟩) (preG_V (ci := 12) (q := (RX12, TX12, 37)) (hP.sub [0, 1] rfl) (hD.sub [0, 1] rfl rfl) hK rfl rfl) rfl rfl hl.1 rfl (lv_room (Nat.le_of_ble_eq_true rfl)) dX12_ends_7 ⟨Nat.le_of_ble_eq_true rfl, Nat.le_of_ble_eq_true rfl⟩) hP hD hS hA [0, 1] rfl (fun H locs hP hD hS => ?_)
  clear hcall
  refine lv_iload_n hx hb dX12_ends_10 rfl (lv_at hl 1 rfl) ?_
  have hr1 := ck_c hf
  replace hf := ck_r hf
  have hr2 := ck_c hf
  replace hf := ck_r hf
  refine lv_icmp_ne (tgt := 54) hx hb dX12_ends_11 (by decide) (fun cc => ?_) (fun cc => ?_)
  ·
    replace hf := ite_f (fun h9 => cc ((z_eq hr1 hr2).mpr h9)) hf
    clear cc
    refine lv_iconst (v := Int32.ofInt (0 : Int)) hx hb dX12_ends_54 (by decide) ?_
    obtain rfl := ou1 hf
    rw [hQ]
    exact W.zret hx hb hr rfl (fun t ht hW => ⟨⟨_, (), rfl, rfl, by rw [ht]; exact hP, va_K.moved hW.alike hK, hD⟩, hS.F ht⟩) hS.2.2 dX12_ends_55
  ·
    replace hf := ite_t ((z_eq hr1 hr2).mp cc) hf
    clear cc
    refine lv_iload_n hx hb dX12_ends_14 rfl (lv_at hl 2 rfl) ?_
    have hr3 := ck_c hf
    replace hf := ck_r hf
    have hq := jn_i hf
    clear hf
    obtain ⟨J5, eJ5, hf⟩ := hq
    have hJ5 : ∀  (ls : Array Slot) (H : Heap) (locs : List Loc), lv_has ls 4 [(0, .ref a_p0), (3, .int (Int32.ofInt x3))] → va_P D vwCl [(a_p0, .inr (12, [.ref a_p0_st, .ref a_p0_isKept, .int (Int32.ofInt i_p0_seats), .int (Int32.ofInt i_p0_stirs), .ref a_p0_brings, .ref a_p0_need, .ref a_p0_draft, .int (Int32.ofInt i_p0_dSeats), .int (Int32.ofInt i_p0_dStirs), .ref a_p0_dStir, .ref a_p0_dNeed, .int (Int32.ofInt i_p0_told), .int (Int32.ofInt i_p0_highest), .ref a_p0_tape, .int (Int32.ofInt i_p0_taped), .int (Int32.ofInt i_p0_pos), .int (Int32.ofInt i_p0_from), .int (Int32.ofInt i_p0_sort), .int (Int32.ofInt i_p0_value), .int (Int32.ofInt i_p0_fault), .int (Int32.ofInt i_p0_wrongAt), .ref a_p0_places, .ref a_p0_stirred, .ref a_p0_ways, .ref a_p0_waysThen, .ref a_p0_stays, .ref a_p0_fewest, .ref a_p0_bowls, .ref a_p0_has, .ref a_p0_goesOn, .ref a_p0_isThere, .ref a_p0_isThereThen, .ref a_p0_bestRow, .ref a_p0_lanes, .ref a_p0_sizes, .ref a_p0_cells, .int (Int32.ofInt i_p0_torn)])), (a_p0_tape, .inl (G 1, 320, .inl (zA v_p0_tape)))] H → va_D A [(a_p0, .inr (12, [.ref a_p0_st, .ref a_p0_isKept, .int (Int32.ofInt i_p0_seats), .int (Int32.ofInt i_p0_stirs), .ref a_p0_brings, .ref a_p0_need, .ref a_p0_draft, .int (Int32.ofInt i_p0_dSeats), .int (Int32.ofInt i_p0_dStirs), .ref a_p0_dStir, .ref a_p0_dNeed, .int (Int32.ofInt i_p0_told), .int (Int32.ofInt i_p0_highest), .ref a_p0_tape, .int (Int32.ofInt i_p0_taped), .int (Int32.ofInt i_p0_pos), .int (Int32.ofInt i_p0_from), .int (Int32.ofInt i_p0_sort), .int (Int32.ofInt i_p0_value), .int (Int32.ofInt i_p0_fault), .int (Int32.ofInt i_p0_wrongAt), .ref a_p0_places, .ref a_p0_stirred, .ref a_p0_ways, .ref a_p0_waysThen, .ref a_p0_stays, .ref a_p0_fewest, .ref a_p0_bowls, .ref a_p0_has, .ref a_p0_goesOn, .ref a_p0_isThere, .ref a_p0_isThereThen, .ref a_p0_bestRow, .ref a_p0_lanes, .ref a_p0_sizes, .ref a_p0_cells, .int (Int32.ofInt i_p0_torn)])), (a_p0_tape, .inl (G 1, 320, .inl (zA v_p0_tape)))] → va_S A s.heap H locs → J5  = some r → W p l e rm_X12_ends s m ([.ref a_p0, .int (Int32.ofInt x1), .int (Int32.ofInt x2), .int (Int32.ofInt x3)] : List Value).toArray below meth c H locs 0 0 Q (F0 m 32 ls []) := by
      clear hf hl hP hD hS
      intro  ls H locs hl hP hD hS hf
      replace hf := jn0_s eJ5 hf
      refine lv_iload_n hx hb dX12_ends_32 rfl (lv_at hl 1 rfl) ?_
      have hr5 := ck_c hf
      replace hf := ck_r hf
      refine lv_if_eq (tgt := 50) hx hb dX12_ends_33 (by decide) (fun cc => ?_) (fun cc => ?_)
      ·
        replace hf := ite_t ((z_eq0 hr5).mp cc) hf
        clear cc
        refine lv_iconst (v := Int32.ofInt (1 : Int)) hx hb dX12_ends_50 (by decide) ?_
        refine lv_goto (tgt := 55) hx hb dX12_ends_51 (by decide) ?_
        obtain rfl := ou1 hf
        rw [hQ]
        exact W.zret hx hb hr rfl (fun t ht hW => ⟨⟨_, (), rfl, rfl, by rw [ht]; exact hP, va_K.moved hW.alike hK, hD⟩, hS.F ht⟩) hS.2.2 dX12_ends_55
      ·
        replace hf := ite_f (fun h9 => cc ((z_eq0 hr5).mpr h9)) hf
        clear cc
        refine lv_aload_n hx hb dX12_ends_36 rfl (lv_at hl 0 rfl) ?_
        refine lv_aload_n hx hb dX12_ends_37 rfl (lv_at hl 0 rfl) ?_
        refine va_get (D := D) (ci := 12) (v := .int (Int32.ofInt i_p0_from)) (C := RX12) (T := TX12) (N := 37) hx hb hts inX12_ends_X12 hown hK hP 0 rfl rfl 16 (by decide) (hts _ mwX12_ends_1) (fun _ h9 => h9) rfl dX12_ends_38 ?_
        refine lv_iconst (v := Int32.ofInt (5 : Int)) hx hb dX12_ends_41 (by decide) ?_
        refine lv_iadd hx hb dX12_ends_42 (z_ci (Int32.ofInt_add i_p0_from (5 : Int)) ?_)
        have hq := bd1_s hf
        clear hf
        obtain ⟨z7, hcall, hf⟩ := hq
        refine gnI (va_runV (As := [.int (Int32.ofInt (i_p0_from + (5 : Int)))]) (rest := []) ⟨hx, hb, hml, hown, hts⟩ (c_X12_look (l := l) (D := D) (G := G) (sz := H.size) (a_p0 := a_p0) (a_p0_st := a_p0_st) (a_p0_isKept := a_p0_isKept) (a_p0_brings := a_p0_brings) (a_p0_need := a_p0_need) (a_p0_draft := a_p0_draft) (a_p0_dStir := a_p0_dStir) (a_p0_dNeed := a_p0_dNeed) (a_p0_tape := a_p0_tape) (a_p0_places := a_p0_places) (a_p0_stirred := a_p0_stirred) (a_p0_ways := a_p0_ways) (a_p0_waysThen := a_p0_waysThen) (a_p0_stays := a_p0_stays) (a_p0_fewest := a_p0_fewest) (a_p0_bowls := a_p0_bowls) (a_p0_has := a_p0_has) (a_p0_goesOn := a_p0_goesOn) (a_p0_isThere := a_p0_isThere) (a_p0_isThereThen := a_p0_isThereThen) (a_p0_bestRow := a_p0_bestRow) (a_p0_lanes := a_p0_lanes) (a_p0_sizes := a_p0_sizes) (a_p0_cells := a_p0_cells) (i_p0_seats := i_p0_seats) (i_p0_stirs := i_p0_stirs) (i_p0_dSeats := i_p0_dSeats) (i_p0_dStirs := i_p0_dStirs) (i_p0_told := i_p0_told) (i_p0_highest := i_p0_highest) (i_p0_taped := i_p0_taped) (i_p0_pos := i_p0_pos) (i_p0_from := i_p0_from) (i_p0_sort := i_p0_sort) (i_p0_value := i_p0_value) (i_p0_fault := i_p0_fault) (i_p0_wrongAt := i_p0_wrongAt) (i_p0_torn := i_p0_torn) (v_p0_tape := v_p0_tape) (x1 := (i_p0_from + (5 : Int))) (r := z7) (hf := hcall)) (cwV 1 hts gX12_ends_X12_look rfl rfl rfl hdV_yX12_look_RX12 ⟨Nat.le_of_ble_eq_true rfl, Nat.le_of_ble_eq_true rfl⟩) (preG_V (ci := 12) (q := (RX12, TX12, 37)) (hP.sub [0, 1] rfl) (hD.sub [0, 1] rfl rfl) hK rfl rfl) rfl rfl hl.1 rfl (lv_room (Nat.le_of_ble_eq_true rfl)) dX12_ends_43 ⟨Nat.le_of_ble_eq_true rfl, Nat.le_of_ble_eq_true rfl⟩) hP hD hS hA [0, 1] rfl (fun H locs hP hD hS => ?_)
        clear hcall
        refine lv_iload_n hx hb dX12_ends_46 rfl (lv_at hl 1 rfl) ?_
        have hr7 := ck_c hf
        replace hf := ck_r hf
        refine lv_icmp_ne (tgt := 54) hx hb dX12_ends_47 (by decide) (fun cc => ?_) (fun cc => ?_)
        ·
          replace hf := ite_f (fun h9 => cc ((z_eq hr7 hr5).mpr h9)) hf
          clear cc
          refine lv_iconst (v := Int32.ofInt (0 : Int)) hx hb dX12_ends_54 (by decide) ?_
          obtain rfl := ou1 hf
          rw [hQ]
          exact W.zret hx hb hr rfl (fun t ht hW => ⟨⟨_, (), rfl, rfl, by rw [ht]; exact hP, va_K.moved hW.alike hK, hD⟩, hS.F ht⟩) hS.2.2 dX12_ends_55
        ·
          replace hf := ite_t ((z_eq hr7 hr5).mp cc) hf
          clear cc
          refine lv_iconst (v := Int32.ofInt (1 : Int)) hx hb dX12_ends_50 (by decide) ?_
          refine lv_goto (tgt := 55) hx hb dX12_ends_51 (by decide) ?_
          obtain rfl := ou1 hf
          rw [hQ]
          exact W.zret hx hb hr rfl (fun t ht hW => ⟨⟨_, (), rfl, rfl, by rw [ht]; exact hP, va_K.moved hW.alike hK, hD⟩, hS.F ht⟩) hS.2.2 dX12_ends_55
    refine lv_if_eq (tgt := 32) hx hb dX12_ends_15 (by decide) (fun cc => ?_) (fun cc => ?_)
    ·
      replace hf := ite_t ((z_eq0 hr3).mp cc) hf
      clear cc
      exact hJ5  _ _ _ (lv_sub hl [0, 3] rfl) hP hD hS hf
    ·
      replace hf := ite_f (fun h9 => cc ((z_eq0 hr3).mpr h9)) hf
      clear cc
      refine lv_aload_n hx hb dX12_ends_18 rfl (lv_at hl 0 rfl) ?_
      refine lv_aload_n hx hb dX12_ends_19 rfl (lv_at hl 0 rfl) ?_
      refine va_get (D := D) (ci := 12) (v := .int (Int32.ofInt i_p0_from)) (C := RX12) (T := TX12) (N := 37) hx hb hts inX12_ends_X12 hown hK hP 0 rfl rfl 16 (by decide) (hts _ mwX12_ends_1) (fun _ h9 => h9) rfl dX12_ends_20 ?_
      refine lv_iconst (v := Int32.ofInt (4 : Int)) hx hb dX12_ends_23 (by decide) ?_
      refine lv_iadd hx hb dX12_ends_24 (z_ci (Int32.ofInt_add i_p0_from (4 : Int)) ?_)
      have hq := bd1_s hf
      clear hf
      obtain ⟨z9, hcall, hf⟩ := hq
      refine gnI (va_runV (As := [.int (Int32.ofInt (i_p0_from + (4 : Int)))]) (rest := []) ⟨hx, hb, hml, hown, hts⟩ (c_X12_look (l := l) (D := D) (G := G) (sz := H.size) (a_p0 := a_p0) (a_p0_st := a_p0_st) (a_p0_isKept := a_p0_isKept) (a_p0_brings := a_p0_brings) (a_p0_need := a_p0_need) (a_p0_draft := a_p0_draft) (a_p0_dStir := a_p0_dStir) (a_p0_dNeed := a_p0_dNeed) (a_p0_tape := a_p0_tape) (a_p0_places := a_p0_places) (a_p0_stirred := a_p0_stirred) (a_p0_ways := a_p0_ways) (a_p0_waysThen := a_p0_waysThen) (a_p0_stays := a_p0_stays) (a_p0_fewest := a_p0_fewest) (a_p0_bowls := a_p0_bowls) (a_p0_has := a_p0_has) (a_p0_goesOn := a_p0_goesOn) (a_p0_isThere := a_p0_isThere) (a_p0_isThereThen := a_p0_isThereThen) (a_p0_bestRow := a_p0_bestRow) (a_p0_lanes := a_p0_lanes) (a_p0_sizes := a_p0_sizes) (a_p0_cells := a_p0_cells) (i_p0_seats := i_p0_seats) (i_p0_stirs := i_p0_stirs) (i_p0_dSeats := i_p0_dSeats) (i_p0_dStirs := i_p0_dStirs) (i_p0_told := i_p0_told) (i_p0_highest := i_p0_highest) (i_p0_taped := i_p0_taped) (i_p0_pos := i_p0_pos) (i_p0_from := i_p0_from) (i_p0_sort := i_p0_sort) (i_p0_value := i_p0_value) (i_p0_fault := i_p0_fault) (i_p0_wrongAt := i_p0_wrongAt) (i_p0_torn := i_p0_torn) (v_p0_tape := v_p0_tape) (x1 := (i_p0_from + (4 : Int))) (r := z9) (hf := hcall)) (cwV 1 hts gX12_ends_X12_look rfl rfl rfl hdV_yX12_look_RX12 ⟨Nat.le_of_ble_eq_true rfl, Nat.le_of_ble_eq_true rfl⟩) (preG_V (ci := 12) (q := (RX12, TX12, 37)) (hP.sub [0, 1] rfl) (hD.sub [0, 1] rfl rfl) hK rfl rfl) rfl rfl hl.1 rfl (lv_room (Nat.le_of_ble_eq_true rfl)) dX12_ends_25 ⟨Nat.le_of_ble_eq_true rfl, Nat.le_of_ble_eq_true rfl⟩) hP hD hS hA [0, 1] rfl (fun H locs hP hD hS => ?_)
      clear hcall
      refine lv_iload_n hx hb dX12_ends_28 rfl (lv_at hl 2 rfl) ?_
      have hr9 := ck_c hf
      replace hf := ck_r hf
      refine lv_icmp_ne (tgt := 54) hx hb dX12_ends_29 (by decide) (fun cc => ?_) (fun cc => ?_)
      ·
        replace hf := ite_f (fun h9 => cc ((z_eq hr9 hr3).mpr h9)) hf
        clear cc
        refine lv_iconst (v := Int32.ofInt (0 : Int)) hx hb dX12_ends_54 (by decide) ?_
        obtain rfl := ou1 hf
        rw [hQ]
        exact W.zret hx hb hr rfl (fun t ht hW => ⟨⟨_, (), rfl, rfl, by rw [ht]; exact hP, va_K.moved hW.alike hK, hD⟩, hS.F ht⟩) hS.2.2 dX12_ends_55
      ·
        replace hf := ite_t ((z_eq hr9 hr3).mp cc) hf
        clear cc
        exact hJ5  _ _ _ (lv_sub hl [0, 3] rfl) hP hD hS hf

noncomputable def f_X12_stirNow (i_p0_taped : Int) (i_p0_pos : Int) (i_p0_from : Int) (v_p0_tape : (Int → Int)) : Option (Int) := (bd1 (f_X12_is i_p0_taped i_p0_pos i_p0_from v_p0_tape (4 : Int) (116 : Int) (117 : Int) (114 : Int)) (fun (z1 : Int) => (ck (z_r32 z1) (jn (bd1 (f_X12_is i_p0_taped i_p0_pos i_p0_from v_p0_tape (4 : Int) (102 : Int) (108 : Int) (105 : Int)) (fun (z4 : Int) => (ck (z_r32 z4) (jn (bd1 (f_X12_is i_p0_taped i_p0_pos i_p0_from v_p0_tape (4 : Int) (115 : Int) (119 : Int) (97 : Int)) (fun (z7 : Int) => (ck (z_r32 z7) (jn (bd1 (f_X12_is i_p0_taped i_p0_pos i_p0_from v_p0_tape (4 : Int) (108 : Int) (105 : Int) (102 : Int)) (fun (z10 : Int) => (ck (z_r32 z10) (if z10 = (0 : Int) then (some (-4 : Int)) else (bd1 (f_X12_ends i_p0_taped i_p0_from v_p0_tape (116 : Int) (0 : Int) (0 : Int)) (fun (z12 : Int) => (ck (z_r32 z12) (if z12 = (0 : Int) then (some (-4 : Int)) else (some (3 : Int)))))))))) (fun (J9 : Option (Int)) => (if z7 = (0 : Int) then (J9) else (bd1 (f_X12_ends i_p0_taped i_p0_from v_p0_tape (112 : Int) (0 : Int) (0 : Int)) (fun (z14 : Int) => (ck (z_r32 z14) (if z14 = (0 : Int) then (J9) else (some (2 : Int)))))))))))) (fun (J6 : Option (Int)) => (if z4 = (0 : Int) then (J6) else (bd1 (f_X12_ends i_p0_taped i_p0_from v_p0_tape (112 : Int) (0 : Int) (0 : Int)) (fun (z16 : Int) => (ck (z_r32 z16) (if z16 = (0 : Int) then (J6) else (some (1 : Int)))))))))))) (fun (J3 : Option (Int)) => (if z1 = (0 : Int) then (J3) else (bd1 (f_X12_ends i_p0_taped i_p0_from v_p0_tape (110 : Int) (0 : Int) (0 : Int)) (fun (z18 : Int) => (ck (z_r32 z18) (if z18 = (0 : Int) then (J3) else (some (0 : Int))))))))))))
abbrev rm_X12_stirNow : Room := { frames := 2, cells := 0, slots := 0, locals := 45 }
theorem hdV_yX12_is_RX12 : yX12_is.cls = RX12 ∧ yX12_is.cls ≠ "java/lang/invoke/MethodHandle" ∧ yX12_is.cls ≠ "java/lang/invoke/VarHandle" ∧ (parseMethodDescriptor yX12_is.desc).map (fun d => d.parameters.length) = some 4 := by decide +kernel
theorem hdV_yX12_ends_RX12 : yX12_ends.cls = RX12 ∧ yX12_ends.cls ≠ "java/lang/invoke/MethodHandle" ∧ yX12_ends.cls ≠ "java/lang/invoke/VarHandle" ∧ (parseMethodDescriptor yX12_ends.desc).map (fun d => d.parameters.length) = some 3 := by decide +kernel
set_option maxHeartbeats 8000000 in
set_option maxRecDepth 100000 in
theorem c_X12_stirNow (l : Launch) (D : va_G) (G : Nat → ClassId) (sz : Nat) (a_p0 : Nat) (a_p0_st : Nat) (a_p0_isKept : Nat) (a_p0_brings : Nat) (a_p0_need : Nat) (a_p0_draft : Nat) (a_p0_dStir : Nat) (a_p0_dNeed : Nat) (a_p0_tape : Nat) (a_p0_places : Nat) (a_p0_stirred : Nat) (a_p0_ways : Nat) (a_p0_waysThen : Nat) (a_p0_stays : Nat) (a_p0_fewest : Nat) (a_p0_bowls : Nat) (a_p0_has : Nat) (a_p0_goesOn : Nat) (a_p0_isThere : Nat) (a_p0_isThereThen : Nat) (a_p0_bestRow : Nat) (a_p0_lanes : Nat) (a_p0_sizes : Nat) (a_p0_cells : Nat) (i_p0_seats : Int) (i_p0_stirs : Int) (i_p0_dSeats : Int) (i_p0_dStirs : Int) (i_p0_told : Int) (i_p0_highest : Int) (i_p0_taped : Int) (i_p0_pos : Int) (i_p0_from : Int) (i_p0_sort : Int) (i_p0_value : Int) (i_p0_fault : Int) (i_p0_wrongAt : Int) (i_p0_torn : Int) (v_p0_tape : (Int → Int)) (r : Int) (hf : f_X12_stirNow i_p0_taped i_p0_pos i_p0_from v_p0_tape = some r) : Met l yX12_stirNow wsX12_stirNow rm_X12_stirNow (pcG D G [.ref a_p0] sz [(a_p0, .inr (12, [.ref a_p0_st, .ref a_p0_isKept, .int (Int32.ofInt i_p0_seats), .int (Int32.ofInt i_p0_stirs), .ref a_p0_brings, .ref a_p0_need, .ref a_p0_draft, .int (Int32.ofInt i_p0_dSeats), .int (Int32.ofInt i_p0_dStirs), .ref a_p0_dStir, .ref a_p0_dNeed, .int (Int32.ofInt i_p0_told), .int (Int32.ofInt i_p0_highest), .ref a_p0_tape, .int (Int32.ofInt i_p0_taped), .int (Int32.ofInt i_p0_pos), .int (Int32.ofInt i_p0_from), .int (Int32.ofInt i_p0_sort), .int (Int32.ofInt i_p0_value), .int (Int32.ofInt i_p0_fault), .int (Int32.ofInt i_p0_wrongAt), .ref a_p0_places, .ref a_p0_stirred, .ref a_p0_ways, .ref a_p0_waysThen, .ref a_p0_stays, .ref a_p0_fewest, .ref a_p0_bowls, .ref a_p0_has, .ref a_p0_goesOn, .ref a_p0_isThere, .ref a_p0_isThereThen, .ref a_p0_bestRow, .ref a_p0_lanes, .ref a_p0_sizes, .ref a_p0_cells, .int (Int32.ofInt i_p0_torn)])), (a_p0_tape, .inl (G 1, 320, .inl (zA v_p0_tape)))]) (qcI D G (Int32.ofInt r) [(a_p0, .inr (12, [.ref a_p0_st, .ref a_p0_isKept, .int (Int32.ofInt i_p0_seats), .int (Int32.ofInt i_p0_stirs), .ref a_p0_brings, .ref a_p0_need, .ref a_p0_draft, .int (Int32.ofInt i_p0_dSeats), .int (Int32.ofInt i_p0_dStirs), .ref a_p0_dStir, .ref a_p0_dNeed, .int (Int32.ofInt i_p0_told), .int (Int32.ofInt i_p0_highest), .ref a_p0_tape, .int (Int32.ofInt i_p0_taped), .int (Int32.ofInt i_p0_pos), .int (Int32.ofInt i_p0_from), .int (Int32.ofInt i_p0_sort), .int (Int32.ofInt i_p0_value), .int (Int32.ofInt i_p0_fault), .int (Int32.ofInt i_p0_wrongAt), .ref a_p0_places, .ref a_p0_stirred, .ref a_p0_ways, .ref a_p0_waysThen, .ref a_p0_stays, .ref a_p0_fewest, .ref a_p0_bowls, .ref a_p0_has, .ref a_p0_goesOn, .ref a_p0_isThere, .ref a_p0_isThereThen, .ref a_p0_bestRow, .ref a_p0_lanes, .ref a_p0_sizes, .ref a_p0_cells, .int (Int32.ofInt i_p0_torn)])), (a_p0_tape, .inl (G 1, 320, .inl (zA v_p0_tape)))] (va_A [(a_p0, .inr (12, [.ref a_p0_st, .ref a_p0_isKept, .int (Int32.ofInt i_p0_seats), .int (Int32.ofInt i_p0_stirs), .ref a_p0_brings, .ref a_p0_need, .ref a_p0_draft, .int (Int32.ofInt i_p0_dSeats), .int (Int32.ofInt i_p0_dStirs), .ref a_p0_dStir, .ref a_p0_dNeed, .int (Int32.ofInt i_p0_told), .int (Int32.ofInt i_p0_highest), .ref a_p0_tape, .int (Int32.ofInt i_p0_taped), .int (Int32.ofInt i_p0_pos), .int (Int32.ofInt i_p0_from), .int (Int32.ofInt i_p0_sort), .int (Int32.ofInt i_p0_value), .int (Int32.ofInt i_p0_fault), .int (Int32.ofInt i_p0_wrongAt), .ref a_p0_places, .ref a_p0_stirred, .ref a_p0_ways, .ref a_p0_waysThen, .ref a_p0_stays, .ref a_p0_fewest, .ref a_p0_bowls, .ref a_p0_has, .ref a_p0_goesOn, .ref a_p0_isThere, .ref a_p0_isThereThen, .ref a_p0_bestRow, .ref a_p0_lanes, .ref a_p0_sizes, .ref a_p0_cells, .int (Int32.ofInt i_p0_torn)])), (a_p0_tape, .inl (G 1, 320, .inl (zA v_p0_tape)))] sz)) 0 0 (va_A [(a_p0, .inr (12, [.ref a_p0_st, .ref a_p0_isKept, .int (Int32.ofInt i_p0_seats), .int (Int32.ofInt i_p0_stirs), .ref a_p0_brings, .ref a_p0_need, .ref a_p0_draft, .int (Int32.ofInt i_p0_dSeats), .int (Int32.ofInt i_p0_dStirs), .ref a_p0_dStir, .ref a_p0_dNeed, .int (Int32.ofInt i_p0_told), .int (Int32.ofInt i_p0_highest), .ref a_p0_tape, .int (Int32.ofInt i_p0_taped), .int (Int32.ofInt i_p0_pos), .int (Int32.ofInt i_p0_from), .int (Int32.ofInt i_p0_sort), .int (Int32.ofInt i_p0_value), .int (Int32.ofInt i_p0_fault), .int (Int32.ofInt i_p0_wrongAt), .ref a_p0_places, .ref a_p0_stirred, .ref a_p0_ways, .ref a_p0_waysThen, .ref a_p0_stays, .ref a_p0_fewest, .ref a_p0_bowls, .ref a_p0_has, .ref a_p0_goesOn, .ref a_p0_isThere, .ref a_p0_isThereThen, .ref a_p0_bestRow, .ref a_p0_lanes, .ref a_p0_sizes, .ref a_p0_cells, .int (Int32.ofInt i_p0_torn)])), (a_p0_tape, .inl (G 1, 320, .inl (zA v_p0_tape)))] sz) := by
  refine Met.ofW (cc := cX12_stirNow) (maxL := 1) (ret := (some .int)) (by decide) rfl ?_
  intro p e s m args below meth c s₁ B hml hv
  obtain ⟨rfl, hsz, hP, hK, hD0⟩ := hv
  have hx := B.exec
  have hb := B.bytes
  have hr := B.returns
  have hts := atoms_spec (ws := wsX12_stirNow) B.pre
  have hown : s.vm.findClass RX12 = some m.cls := findClass_of_methodNamed B.named
  have hlocks := B.notSynchronized
  subst hsz
  have hD := hD0.self (sz := s.heap.size)
  generalize hAe : va_A [(a_p0, .inr (12, [.ref a_p0_st, .ref a_p0_isKept, .int (Int32.ofInt i_p0_seats), .int (Int32.ofInt i_p0_stirs), .ref a_p0_brings, .ref a_p0_need, .ref a_p0_draft, .int (Int32.ofInt i_p0_dSeats), .int (Int32.ofInt i_p0_dStirs), .ref a_p0_dStir, .ref a_p0_dNeed, .int (Int32.ofInt i_p0_told), .int (Int32.ofInt i_p0_highest), .ref a_p0_tape, .int (Int32.ofInt i_p0_taped), .int (Int32.ofInt i_p0_pos), .int (Int32.ofInt i_p0_from), .int (Int32.ofInt i_p0_sort), .int (Int32.ofInt i_p0_value), .int (Int32.ofInt i_p0_fault), .int (Int32.ofInt i_p0_wrongAt), .ref a_p0_places, .ref a_p0_stirred, .ref a_p0_ways, .ref a_p0_waysThen, .ref a_p0_stays, .ref a_p0_fewest, .ref a_p0_bowls, .ref a_p0_has, .ref a_p0_goesOn, .ref a_p0_isThere, .ref a_p0_isThereThen, .ref a_p0_bestRow, .ref a_p0_lanes, .ref a_p0_sizes, .ref a_p0_cells, .int (Int32.ofInt i_p0_torn)])), (a_p0_tape, .inl (G 1, 320, .inl (zA v_p0_tape)))] s.heap.size = A at hD ⊢
  have hA : ∀ q : Nat, s.heap.size ≤ q → A q := fun q h => by rw [← hAe]; exact Or.inr h
  clear hAe hD0
  have hS : va_S A s.heap s.heap [] := va_S.rf
  have hl := lv_entry ([.ref a_p0]) (n := 1) (Nat.le_of_ble_eq_true rfl)
  rw [lg_entry_eq]
  generalize (lg_sl ([.ref a_p0]) ++ List.replicate (1 - (lg_sl ([.ref a_p0])).length) Slot.unset).toArray = ls at hl ⊢
  have hl : lv_has ls 1 [(0, .ref a_p0)] := hl
  refine W_nameQ (fun Q hQ => ?_)
  obtain ⟨H, hH⟩ : ∃ H, H = s.heap := ⟨_, rfl⟩
  replace hS : va_S A s.heap H [] := by rw [hH]; exact hS
  replace hP : va_P D vwCl [(a_p0, .inr (12, [.ref a_p0_st, .ref a_p0_isKept, .int (Int32.ofInt i_p0_seats), .int (Int32.ofInt i_p0_stirs), .ref a_p0_brings, .ref a_p0_need, .ref a_p0_draft, .int (Int32.ofInt i_p0_dSeats), .int (Int32.ofInt i_p0_dStirs), .ref a_p0_dStir, .ref a_p0_dNeed, .int (Int32.ofInt i_p0_told), .int (Int32.ofInt i_p0_highest), .ref a_p0_tape, .int (Int32.ofInt i_p0_taped), .int (Int32.ofInt i_p0_pos), .int (Int32.ofInt i_p0_from), .int (Int32.ofInt i_p0_sort), .int (Int32.ofInt i_p0_value), .int (Int32.ofInt i_p0_fault), .int (Int32.ofInt i_p0_wrongAt), .ref a_p0_places, .ref a_p0_stirred, .ref a_p0_ways, .ref a_p0_waysThen, .ref a_p0_stays, .ref a_p0_fewest, .ref a_p0_bowls, .ref a_p0_has, .ref a_p0_goesOn, .ref a_p0_isThere, .ref a_p0_isThereThen, .ref a_p0_bestRow, .ref a_p0_lanes, .ref a_p0_sizes, .ref a_p0_cells, .int (Int32.ofInt i_p0_torn)])), (a_p0_tape, .inl (G 1, 320, .inl (zA v_p0_tape)))] H := by rw [hH]; exact hP
  rw [← hH]
  clear hH
  unfold f_X12_stirNow at hf
  refine lv_aload_n hx hb dX12_stirNow_0 rfl (lv_at hl 0 rfl) ?_
  refine lv_iconst (v := Int32.ofInt (4 : Int)) hx hb dX12_stirNow_1 (by decide) ?_
  refine lv_bipush (v := Int32.ofInt (116 : Int)) hx hb dX12_stirNow_2 (by decide) ?_
  refine lv_bipush (v := Int32.ofInt (117 : Int)) hx hb dX12_stirNow_4 (by decide) ?_
  refine lv_bipush (v := Int32.ofInt (114 : Int)) hx hb dX12_stirNow_6 (by decide) ?_
  have hq := bd1_s hf
  clear hf
  obtain ⟨z1, hcall, hf⟩ := hq
  refine gnI (va_runV (As := [.int (Int32.ofInt (4 : Int)), .int (Int32.ofInt (116 : Int)), .int (Int32.ofInt (117 : Int)), .int (Int32.ofInt (114 : Int))]) (rest := []) ⟨hx, hb, hml, hown, hts⟩ (c_X12_is (l := l) (D := D) (G := G) (sz := H.size) (a_p0 := a_p0) (a_p0_st := a_p0_st) (a_p0_isKept := a_p0_isKept) (a_p0_brings := a_p0_brings) (a_p0_need := a_p0_need) (a_p0_draft := a_p0_draft) (a_p0_dStir := a_p0_dStir) (a_p0_dNeed := a_p0_dNeed) (a_p0_tape := a_p0_tape) (a_p0_places := a_p0_places) (a_p0_stirred := a_p0_stirred) (a_p0_ways := a_p0_ways) (a_p0_waysThen := a_p0_waysThen) (a_p0_stays := a_p0_stays) (a_p0_fewest := a_p0_fewest) (a_p0_bowls := a_p0_bowls) (a_p0_has := a_p0_has) (a_p0_goesOn := a_p0_goesOn) (a_p0_isThere := a_p0_isThere) (a_p0_isThereThen := a_p0_isThereThen) (a_p0_bestRow := a_p0_bestRow) (a_p0_lanes := a_p0_lanes) (a_p0_sizes := a_p0_sizes) (a_p0_cells := a_p0_cells) (i_p0_seats := i_p0_seats) (i_p0_stirs := i_p0_stirs) (i_p0_dSeats := i_p0_dSeats) (i_p0_dStirs := i_p0_dStirs) (i_p0_told := i_p0_told) (i_p0_highest := i_p0_highest) (i_p0_taped := i_p0_taped) (i_p0_pos := i_p0_pos) (i_p0_from := i_p0_from) (i_p0_sort := i_p0_sort) (i_p0_value := i_p0_value) (i_p0_fault := i_p0_fault) (i_p0_wrongAt := i_p0_wrongAt) (i_p0_torn := i_p0_torn) (v_p0_tape := v_p0_tape) (x1 := (4 : Int)) (x2 := (116 : Int)) (x3 := (117 : Int)) (x4 := (114 : Int)) (r := z1) (hf := hcall)) (cwV 4 hts gX12_stirNow_X12_is rfl rfl rfl hdV_yX12_is_RX12 ⟨Nat.le_of_ble_eq_true rfl, Nat.le_of_ble_eq_true rfl⟩) (preG_V (ci := 12) (q := (RX12, TX12, 37)) (hP.sub [0, 1] rfl) (hD.sub [0, 1] rfl rfl) hK rfl rfl) rfl rfl hl.1 rfl (lv_room (Nat.le_of_ble_eq_true rfl)) dX12_stirNow_8 ⟨Nat.le_of_ble_eq_true rfl, Nat.le_of_ble_eq_true rfl⟩) hP hD hS hA [0, 1] rfl (fun H locs hP hD hS => ?_)
  clear hcall
  have hr1 := ck_c hf
  replace hf := ck_r hf
  have hq := jn_i hf
  clear hf
  obtain ⟨J3, eJ3, hf⟩ := hq
  have hJ3 : ∀  (ls : Array Slot) (H : Heap) (locs : List Loc), lv_has ls 1 [(0, .ref a_p0)] → va_P D vwCl [(a_p0, .inr (12, [.ref a_p0_st, .ref a_p0_isKept, .int (Int32.ofInt i_p0_seats), .int (Int32.ofInt i_p0_stirs), .ref a_p0_brings, .ref a_p0_need, .ref a_p0_draft, .int (Int32.ofInt i_p0_dSeats), .int (Int32.ofInt i_p0_dStirs), .ref a_p0_dStir, .ref a_p0_dNeed, .int (Int32.ofInt i_p0_told), .int (Int32.ofInt i_p0_highest), .ref a_p0_tape, .int (Int32.ofInt i_p0_taped), .int (Int32.ofInt i_p0_pos), .int (Int32.ofInt i_p0_from), .int (Int32.ofInt i_p0_sort), .int (Int32.ofInt i_p0_value), .int (Int32.ofInt i_p0_fault), .int (Int32.ofInt i_p0_wrongAt), .ref a_p0_places, .ref a_p0_stirred, .ref a_p0_ways, .ref a_p0_waysThen, .ref a_p0_stays, .ref a_p0_fewest, .ref a_p0_bowls, .ref a_p0_has, .ref a_p0_goesOn, .ref a_p0_isThere, .ref a_p0_isThereThen, .ref a_p0_bestRow, .ref a_p0_lanes, .ref a_p0_sizes, .ref a_p0_cells, .int (Int32.ofInt i_p0_torn)])), (a_p0_tape, .inl (G 1, 320, .inl (zA v_p0_tape)))] H → va_D A [(a_p0, .inr (12, [.ref a_p0_st, .ref a_p0_isKept, .int (Int32.ofInt i_p0_seats), .int (Int32.ofInt i_p0_stirs), .ref a_p0_brings, .ref a_p0_need, .ref a_p0_draft, .int (Int32.ofInt i_p0_dSeats), .int (Int32.ofInt i_p0_dStirs), .ref a_p0_dStir, .ref a_p0_dNeed, .int (Int32.ofInt i_p0_told), .int (Int32.ofInt i_p0_highest), .ref a_p0_tape, .int (Int32.ofInt i_p0_taped), .int (Int32.ofInt i_p0_pos), .int (Int32.ofInt i_p0_from), .int (Int32.ofInt i_p0_sort), .int (Int32.ofInt i_p0_value), .int (Int32.ofInt i_p0_fault), .int (Int32.ofInt i_p0_wrongAt), .ref a_p0_places, .ref a_p0_stirred, .ref a_p0_ways, .ref a_p0_waysThen, .ref a_p0_stays, .ref a_p0_fewest, .ref a_p0_bowls, .ref a_p0_has, .ref a_p0_goesOn, .ref a_p0_isThere, .ref a_p0_isThereThen, .ref a_p0_bestRow, .ref a_p0_lanes, .ref a_p0_sizes, .ref a_p0_cells, .int (Int32.ofInt i_p0_torn)])), (a_p0_tape, .inl (G 1, 320, .inl (zA v_p0_tape)))] → va_S A s.heap H locs → J3  = some r → W p l e rm_X12_stirNow s m ([.ref a_p0] : List Value).toArray below meth c H locs 0 0 Q (F0 m 27 ls []) := by
    clear hf hl hP hD hS
    intro  ls H locs hl hP hD hS hf
    replace hf := jn0_s eJ3 hf
    refine lv_aload_n hx hb dX12_stirNow_27 rfl (lv_at hl 0 rfl) ?_
    refine lv_iconst (v := Int32.ofInt (4 : Int)) hx hb dX12_stirNow_28 (by decide) ?_
    refine lv_bipush (v := Int32.ofInt (102 : Int)) hx hb dX12_stirNow_29 (by decide) ?_
    refine lv_bipush (v := Int32.ofInt (108 : Int)) hx hb dX12_stirNow_31 (by decide) ?_
    refine lv_bipush (v := Int32.ofInt (105 : Int)) hx hb dX12_stirNow_33 (by decide) ?_
    have hq := bd1_s hf
    clear hf
    obtain ⟨z4, hcall, hf⟩ := hq
    refine gnI (va_runV (As := [.int (Int32.ofInt (4 : Int)), .int (Int32.ofInt (102 : Int)), .int (Int32.ofInt (108 : Int)), .int (Int32.ofInt (105 : Int))]) (rest := []) ⟨hx, hb, hml, hown, hts⟩ (c_X12_is (l := l) (D := D) (G := G) (sz := H.size) (a_p0 := a_p0) (a_p0_st := a_p0_st) (a_p0_isKept := a_p0_isKept) (a_p0_brings := a_p0_brings) (a_p0_need := a_p0_need) (a_p0_draft := a_p0_draft) (a_p0_dStir := a_p0_dStir) (a_p0_dNeed := a_p0_dNeed) (a_p0_tape := a_p0_tape) (a_p0_places := a_p0_places) (a_p0_stirred := a_p0_stirred) (a_p0_ways := a_p0_ways) (a_p0_waysThen := a_p0_waysThen) (a_p0_stays := a_p0_stays) (a_p0_fewest := a_p0_fewest) (a_p0_bowls := a_p0_bowls) (a_p0_has := a_p0_has) (a_p0_goesOn := a_p0_goesOn) (a_p0_isThere := a_p0_isThere) (a_p0_isThereThen := a_p0_isThereThen) (a_p0_bestRow := a_p0_bestRow) (a_p0_lanes := a_p0_lanes) (a_p0_sizes := a_p0_sizes) (a_p0_cells := a_p0_cells) (i_p0_seats := i_p0_seats) (i_p0_stirs := i_p0_stirs) (i_p0_dSeats := i_p0_dSeats) (i_p0_dStirs := i_p0_dStirs) (i_p0_told := i_p0_told) (i_p0_highest := i_p0_highest) (i_p0_taped := i_p0_taped) (i_p0_pos := i_p0_pos) (i_p0_from := i_p0_from) (i_p0_sort := i_p0_sort) (i_p0_value := i_p0_value) (i_p0_fault := i_p0_fault) (i_p0_wrongAt := i_p0_wrongAt) (i_p0_torn := i_p0_torn) (v_p0_tape := v_p0_tape) (x1 := (4 : Int)) (x2 := (102 : Int)) (x3 := (108 : Int)) (x4 := (105 : Int)) (r := z4) (hf := hcall)) (cwV 4 hts gX12_stirNow_X12_is rfl rfl rfl hdV_yX12_is_RX12 ⟨Nat.le_of_ble_eq_true rfl, Nat.le_of_ble_eq_true rfl⟩) (preG_V (ci := 12) (q := (RX12, TX12, 37)) (hP.sub [0, 1] rfl) (hD.sub [0, 1] rfl rfl) hK rfl rfl) rfl rfl hl.1 rfl (lv_room (Nat.le_of_ble_eq_true rfl)) dX12_stirNow_35 ⟨Nat.le_of_ble_eq_true rfl, Nat.le_of_ble_eq_true rfl⟩) hP hD hS hA [0, 1] rfl (fun H locs hP hD hS => ?_)
    clear hcall
    have hr4 := ck_c hf
    replace hf := ck_r hf
    have hq := jn_i hf
    clear hf
    obtain ⟨J6, eJ6, hf⟩ := hq
    have hJ6 : ∀  (ls : Array Slot) (H : Heap) (locs : List Loc), lv_has ls 1 [(0, .ref a_p0)] → va_P D vwCl [(a_p0, .inr (12, [.ref a_p0_st, .ref a_p0_isKept, .int (Int32.ofInt i_p0_seats), .int (Int32.ofInt i_p0_stirs), .ref a_p0_brings, .ref a_p0_need, .ref a_p0_draft, .int (Int32.ofInt i_p0_dSeats), .int (Int32.ofInt i_p0_dStirs), .ref a_p0_dStir, .ref a_p0_dNeed, .int (Int32.ofInt i_p0_told), .int (Int32.ofInt i_p0_highest), .ref a_p0_tape, .int (Int32.ofInt i_p0_taped), .int (Int32.ofInt i_p0_pos), .int (Int32.ofInt i_p0_from), .int (Int32.ofInt i_p0_sort), .int (Int32.ofInt i_p0_value), .int (Int32.ofInt i_p0_fault), .int (Int32.ofInt i_p0_wrongAt), .ref a_p0_places, .ref a_p0_stirred, .ref a_p0_ways, .ref a_p0_waysThen, .ref a_p0_stays, .ref a_p0_fewest, .ref a_p0_bowls, .ref a_p0_has, .ref a_p0_goesOn, .ref a_p0_isThere, .ref a_p0_isThereThen, .ref a_p0_bestRow, .ref a_p0_lanes, .ref a_p0_sizes, .ref a_p0_cells, .int (Int32.ofInt i_p0_torn)])), (a_p0_tape, .inl (G 1, 320, .inl (zA v_p0_tape)))] H → va_D A [(a_p0, .inr (12, [.ref a_p0_st, .ref a_p0_isKept, .int (Int32.ofInt i_p0_seats), .int (Int32.ofInt i_p0_stirs), .ref a_p0_brings, .ref a_p0_need, .ref a_p0_draft, .int (Int32.ofInt i_p0_dSeats), .int (Int32.ofInt i_p0_dStirs), .ref a_p0_dStir, .ref a_p0_dNeed, .int (Int32.ofInt i_p0_told), .int (Int32.ofInt i_p0_highest), .ref a_p0_tape, .int (Int32.ofInt i_p0_taped), .int (Int32.ofInt i_p0_pos), .int (Int32.ofInt i_p0_from), .int (Int32.ofInt i_p0_sort), .int (Int32.ofInt i_p0_value), .int (Int32.ofInt i_p0_fault), .int (Int32.ofInt i_p0_wrongAt), .ref a_p0_places, .ref a_p0_stirred, .ref a_p0_ways, .ref a_p0_waysThen, .ref a_p0_stays, .ref a_p0_fewest, .ref a_p0_bowls, .ref a_p0_has, .ref a_p0_goesOn, .ref a_p0_isThere, .ref a_p0_isThereThen, .ref a_p0_bestRow, .ref a_p0_lanes, .ref a_p0_sizes, .ref a_p0_cells, .int (Int32.ofInt i_p0_torn)])), (a_p0_tape, .inl (G 1, 320, .inl (zA v_p0_tape)))] → va_S A s.heap H locs → J6  = some r → W p l e rm_X12_stirNow s m ([.ref a_p0] : List Value).toArray below meth c H locs 0 0 Q (F0 m 54 ls []) := by
      clear hf hl hP hD hS
      intro  ls H locs hl hP hD hS hf
      replace hf := jn0_s eJ6 hf
      refine lv_aload_n hx hb dX12_stirNow_54 rfl (lv_at hl 0 rfl) ?_
      refine lv_iconst (v := Int32.ofInt (4 : Int)) hx hb dX12_stirNow_55 (by decide) ?_
      refine lv_bipush (v := Int32.ofInt (115 : Int)) hx hb dX12_stirNow_56 (by decide) ?_
      refine lv_bipush (v := Int32.ofInt (119 : Int)) hx hb dX12_stirNow_58 (by decide) ?_
      refine lv_bipush (v := Int32.ofInt (97 : Int)) hx hb dX12_stirNow_60 (by decide) ?_
      have hq := bd1_s hf
      clear hf
      obtain ⟨z7, hcall, hf⟩ := hq
      refine gnI (va_runV (As := [.int (Int32.ofInt (4 : Int)), .int (Int32.ofInt (115 : Int)), .int (Int32.ofInt (119 : Int)), .int (Int32.ofInt (97 : Int))]) (rest := []) ⟨hx, hb, hml, hown, hts⟩ (c_X12_is (l := l) (D := D) (G := G) (sz := H.size) (a_p0 := a_p0) (a_p0_st := a_p0_st) (a_p0_isKept := a_p0_isKept) (a_p0_brings := a_p0_brings) (a_p0_need := a_p0_need) (a_p0_draft := a_p0_draft) (a_p0_dStir := a_p0_dStir) (a_p0_dNeed := a_p0_dNeed) (a_p0_tape := a_p0_tape) (a_p0_places := a_p0_places) (a_p0_stirred := a_p0_stirred) (a_p0_ways := a_p0_ways) (a_p0_waysThen := a_p0_waysThen) (a_p0_stays := a_p0_stays) (a_p0_fewest := a_p0_fewest) (a_p0_bowls := a_p0_bowls) (a_p0_has := a_p0_has) (a_p0_goesOn := a_p0_goesOn) (a_p0_isThere := a_p0_isThere) (a_p0_isThereThen := a_p0_isThereThen) (a_p0_bestRow := a_p0_bestRow) (a_p0_lanes := a_p0_lanes) (a_p0_sizes := a_p0_sizes) (a_p0_cells := a_p0_cells) (i_p0_seats := i_p0_seats) (i_p0_stirs := i_p0_stirs) (i_p0_dSeats := i_p0_dSeats) (i_p0_dStirs := i_p0_dStirs) (i_p0_told := i_p0_told) (i_p0_highest := i_p0_highest) (i_p0_taped := i_p0_taped) (i_p0_pos := i_p0_pos) (i_p0_from := i_p0_from) (i_p0_sort := i_p0_sort) (i_p0_value := i_p0_value) (i_p0_fault := i_p0_fault) (i_p0_wrongAt := i_p0_wrongAt) (i_p0_torn := i_p0_torn) (v_p0_tape := v_p0_tape) (x1 := (4 : Int)) (x2 := (115 : Int)) (x3 := (119 : Int)) (x4 := (97 : Int)) (r := z7) (hf := hcall)) (cwV 4 hts gX12_stirNow_X12_is rfl rfl rfl hdV_yX12_is_RX12 ⟨Nat.le_of_ble_eq_true rfl, Nat.le_of_ble_eq_true rfl⟩) (preG_V (ci := 12) (q := (RX12, TX12, 37)) (hP.sub [0, 1] rfl) (hD.sub [0, 1] rfl rfl) hK rfl rfl) rfl rfl hl.1 rfl (lv_room (Nat.le_of_ble_eq_true rfl)) dX12_stirNow_62 ⟨Nat.le_of_ble_eq_true rfl, Nat.le_of_ble_eq_true rfl⟩) hP hD hS hA [0, 1] rfl (fun H locs hP hD hS => ?_)
      clear hcall
      have hr7 := ck_c hf
      replace hf := ck_r hf
      have hq := jn_i hf
      clear hf
      obtain ⟨J9, eJ9, hf⟩ := hq
      have hJ9 : ∀  (ls : Array Slot) (H : Heap) (locs : List Loc), lv_has ls 1 [(0, .ref a_p0)] → va_P D vwCl [(a_p0, .inr (12, [.ref a_p0_st, .ref a_p0_isKept, .int (Int32.ofInt i_p0_seats), .int (Int32.ofInt i_p0_stirs), .ref a_p0_brings, .ref a_p0_need, .ref a_p0_draft, .int (Int32.ofInt i_p0_dSeats), .int (Int32.ofInt i_p0_dStirs), .ref a_p0_dStir, .ref a_p0_dNeed, .int (Int32.ofInt i_p0_told), .int (Int32.ofInt i_p0_highest), .ref a_p0_tape, .int (Int32.ofInt i_p0_taped), .int (Int32.ofInt i_p0_pos), .int (Int32.ofInt i_p0_from), .int (Int32.ofInt i_p0_sort), .int (Int32.ofInt i_p0_value), .int (Int32.ofInt i_p0_fault), .int (Int32.ofInt i_p0_wrongAt), .ref a_p0_places, .ref a_p0_stirred, .ref a_p0_ways, .ref a_p0_waysThen, .ref a_p0_stays, .ref a_p0_fewest, .ref a_p0_bowls, .ref a_p0_has, .ref a_p0_goesOn, .ref a_p0_isThere, .ref a_p0_isThereThen, .ref a_p0_bestRow, .ref a_p0_lanes, .ref a_p0_sizes, .ref a_p0_cells, .int (Int32.ofInt i_p0_torn)])), (a_p0_tape, .inl (G 1, 320, .inl (zA v_p0_tape)))] H → va_D A [(a_p0, .inr (12, [.ref a_p0_st, .ref a_p0_isKept, .int (Int32.ofInt i_p0_seats), .int (Int32.ofInt i_p0_stirs), .ref a_p0_brings, .ref a_p0_need, .ref a_p0_draft, .int (Int32.ofInt i_p0_dSeats), .int (Int32.ofInt i_p0_dStirs), .ref a_p0_dStir, .ref a_p0_dNeed, .int (Int32.ofInt i_p0_told), .int (Int32.ofInt i_p0_highest), .ref a_p0_tape, .int (Int32.ofInt i_p0_taped), .int (Int32.ofInt i_p0_pos), .int (Int32.ofInt i_p0_from), .int (Int32.ofInt i_p0_sort), .int (Int32.ofInt i_p0_value), .int (Int32.ofInt i_p0_fault), .int (Int32.ofInt i_p0_wrongAt), .ref a_p0_places, .ref a_p0_stirred, .ref a_p0_ways, .ref a_p0_waysThen, .ref a_p0_stays, .ref a_p0_fewest, .ref a_p0_bowls, .ref a_p0_has, .ref a_p0_goesOn, .ref a_p0_isThere, .ref a_p0_isThereThen, .ref a_p0_bestRow, .ref a_p0_lanes, .ref a_p0_sizes, .ref a_p0_cells, .int (Int32.ofInt i_p0_torn)])), (a_p0_tape, .inl (G 1, 320, .inl (zA v_p0_tape)))] → va_S A s.heap H locs → J9  = some r → W p l e rm_X12_stirNow s m ([.ref a_p0] : List Value).toArray below meth c H locs 0 0 Q (F0 m 81 ls []) := by
        clear hf hl hP hD hS
        intro  ls H locs hl hP hD hS hf
        replace hf := jn0_s eJ9 hf
        refine lv_aload_n hx hb dX12_stirNow_81 rfl (lv_at hl 0 rfl) ?_
        refine lv_iconst (v := Int32.ofInt (4 : Int)) hx hb dX12_stirNow_82 (by decide) ?_
        refine lv_bipush (v := Int32.ofInt (108 : Int)) hx hb dX12_stirNow_83 (by decide) ?_
        refine lv_bipush (v := Int32.ofInt (105 : Int)) hx hb dX12_stirNow_85 (by decide) ?_
        refine lv_bipush (v := Int32.ofInt (102 : Int)) hx hb dX12_stirNow_87 (by decide) ?_
        have hq := bd1_s hf
        clear hf
        obtain ⟨z10, hcall, hf⟩ := hq
        refine gnI (va_runV (As := [.int (Int32.ofInt (4 : Int)), .int (Int32.ofInt (108 : Int)), .int (Int32.ofInt (105 : Int)), .int (Int32.ofInt (102 : Int))]) (rest := []) ⟨hx, hb, hml, hown, hts⟩ (c_X12_is (l := l) (D := D) (G := G) (sz := H.size) (a_p0 := a_p0) (a_p0_st := a_p0_st) (a_p0_isKept := a_p0_isKept) (a_p0_brings := a_p0_brings) (a_p0_need := a_p0_need) (a_p0_draft := a_p0_draft) (a_p0_dStir := a_p0_dStir) (a_p0_dNeed := a_p0_dNeed) (a_p0_tape := a_p0_tape) (a_p0_places := a_p0_places) (a_p0_stirred := a_p0_stirred) (a_p0_ways := a_p0_ways) (a_p0_waysThen := a_p0_waysThen) (a_p0_stays := a_p0_stays) (a_p0_fewest := a_p0_fewest) (a_p0_bowls := a_p0_bowls) (a_p0_has := a_p0_has) (a_p0_goesOn := a_p0_goesOn) (a_p0_isThere := a_p0_isThere) (a_p0_isThereThen := a_p0_isThereThen) (a_p0_bestRow := a_p0_bestRow) (a_p0_lanes := a_p0_lanes) (a_p0_sizes := a_p0_sizes) (a_p0_cells := a_p0_cells) (i_p0_seats := i_p0_seats) (i_p0_stirs := i_p0_stirs) (i_p0_dSeats := i_p0_dSeats) (i_p0_dStirs := i_p0_dStirs) (i_p0_told := i_p0_told) (i_p0_highest := i_p0_highest) (i_p0_taped := i_p0_taped) (i_p0_pos := i_p0_pos) (i_p0_from := i_p0_from) (i_p0_sort := i_p0_sort) (i_p0_value := i_p0_value) (i_p0_fault := i_p0_fault) (i_p0_wrongAt := i_p0_wrongAt) (i_p0_torn := i_p0_torn) (v_p0_tape := v_p0_tape) (x1 := (4 : Int)) (x2 := (108 : Int)) (x3 := (105 : Int)) (x4 := (102 : Int)) (r := z10) (hf := hcall)) (cwV 4 hts gX12_stirNow_X12_is rfl rfl rfl hdV_yX12_is_RX12 ⟨Nat.le_of_ble_eq_true rfl, Nat.le_of_ble_eq_true rfl⟩) (preG_V (ci := 12) (q := (RX12, TX12, 37)) (hP.sub [0, 1] rfl) (hD.sub [0, 1] rfl rfl) hK rfl rfl) rfl rfl hl.1 rfl (lv_room (Nat.le_of_ble_eq_true rfl)) dX12_stirNow_89 ⟨Nat.le_of_ble_eq_true rfl, Nat.le_of_ble_eq_true rfl⟩) hP hD hS hA [0, 1] rfl (fun H locs hP hD hS => ?_)
        clear hcall
        have hr10 := ck_c hf
        replace hf := ck_r hf
        refine lv_if_eq (tgt := 110) hx hb dX12_stirNow_92 (by decide) (fun cc => ?_) (fun cc => ?_)
        ·
          replace hf := ite_t ((z_eq0 hr10).mp cc) hf
          clear cc
          refine lv_bipush (v := Int32.ofInt (-4 : Int)) hx hb dX12_stirNow_110 (by decide) ?_
          obtain rfl := ou1 hf
          rw [hQ]
          exact W.iret hx hb hr (fun t ht hW => ⟨⟨_, (), rfl, rfl, by rw [ht]; exact hP, va_K.moved hW.alike hK, hD⟩, hS.F ht⟩) hS.2.2 dX12_stirNow_112
        ·
          replace hf := ite_f (fun h9 => cc ((z_eq0 hr10).mpr h9)) hf
          clear cc
          refine lv_aload_n hx hb dX12_stirNow_95 rfl (lv_at hl 0 rfl) ?_
          refine lv_bipush (v := Int32.ofInt (116 : Int)) hx hb dX12_stirNow_96 (by decide) ?_
          refine lv_iconst (v := Int32.ofInt (0 : Int)) hx hb dX12_stirNow_98 (by decide) ?_
          refine lv_iconst (v := Int32.ofInt (0 : Int)) hx hb dX12_stirNow_99 (by decide) ?_
          have hq := bd1_s hf
          clear hf
          obtain ⟨z12, hcall, hf⟩ := hq
          refine gnI (va_runV (As := [.int (Int32.ofInt (116 : Int)), .int (Int32.ofInt (0 : Int)), .int (Int32.ofInt (0 : Int))]) (rest := []) ⟨hx, hb, hml, hown, hts⟩ (c_X12_ends (l := l) (D := D) (G := G) (sz := H.size) (a_p0 := a_p0) (a_p0_st := a_p0_st) (a_p0_isKept := a_p0_isKept) (a_p0_brings := a_p0_brings) (a_p0_need := a_p0_need) (a_p0_draft := a_p0_draft) (a_p0_dStir := a_p0_dStir) (a_p0_dNeed := a_p0_dNeed) (a_p0_tape := a_p0_tape) (a_p0_places := a_p0_places) (a_p0_stirred := a_p0_stirred) (a_p0_ways := a_p0_ways) (a_p0_waysThen := a_p0_waysThen) (a_p0_stays := a_p0_stays) (a_p0_fewest := a_p0_fewest) (a_p0_bowls := a_p0_bowls) (a_p0_has := a_p0_has) (a_p0_goesOn := a_p0_goesOn) (a_p0_isThere := a_p0_isThere) (a_p0_isThereThen := a_p0_isThereThen) (a_p0_bestRow := a_p0_bestRow) (a_p0_lanes := a_p0_lanes) (a_p0_sizes := a_p0_sizes) (a_p0_cells := a_p0_cells) (i_p0_seats := i_p0_seats) (i_p0_stirs := i_p0_stirs) (i_p0_dSeats := i_p0_dSeats) (i_p0_dStirs := i_p0_dStirs) (i_p0_told := i_p0_told) (i_p0_highest := i_p0_highest) (i_p0_taped := i_p0_taped) (i_p0_pos := i_p0_pos) (i_p0_from := i_p0_from) (i_p0_sort := i_p0_sort) (i_p0_value := i_p0_value) (i_p0_fault := i_p0_fault) (i_p0_wrongAt := i_p0_wrongAt) (i_p0_torn := i_p0_torn) (v_p0_tape := v_p0_tape) (x1 := (116 : Int)) (x2 := (0 : Int)) (x3 := (0 : Int)) (r := z12) (hf := hcall)) (cwV 3 hts gX12_stirNow_X12_ends rfl rfl rfl hdV_yX12_ends_RX12 ⟨Nat.le_of_ble_eq_true rfl, Nat.le_of_ble_eq_true rfl⟩) (preG_V (ci := 12) (q := (RX12, TX12, 37)) (hP.sub [0, 1] rfl) (hD.sub [0, 1] rfl rfl) hK rfl rfl) rfl rfl hl.1 rfl (lv_room (Nat.le_of_ble_eq_true rfl)) dX12_stirNow_100 ⟨Nat.le_of_ble_eq_true rfl, Nat.le_of_ble_eq_true rfl⟩) hP hD hS hA [0, 1] rfl (fun H locs hP hD hS => ?_)
          clear hcall
          have hr12 := ck_c hf
          replace hf := ck_r hf
          refine lv_if_eq (tgt := 110) hx hb dX12_stirNow_103 (by decide) (fun cc => ?_) (fun cc => ?_)
          ·
            replace hf := ite_t ((z_eq0 hr12).mp cc) hf
            clear cc
            refine lv_bipush (v := Int32.ofInt (-4 : Int)) hx hb dX12_stirNow_110 (by decide) ?_
            obtain rfl := ou1 hf
            rw [hQ]
            exact W.iret hx hb hr (fun t ht hW => ⟨⟨_, (), rfl, rfl, by rw [ht]; exact hP, va_K.moved hW.alike hK, hD⟩, hS.F ht⟩) hS.2.2 dX12_stirNow_112
          ·
            replace hf := ite_f (fun h9 => cc ((z_eq0 hr12).mpr h9)) hf
            clear cc
            refine lv_iconst (v := Int32.ofInt (3 : Int)) hx hb dX12_stirNow_106 (by decide) ?_
            refine lv_goto (tgt := 112) hx hb dX12_stirNow_107 (by decide) ?_
            obtain rfl := ou1 hf
            rw [hQ]
            exact W.iret hx hb hr (fun t ht hW => ⟨⟨_, (), rfl, rfl, by rw [ht]; exact hP, va_K.moved hW.alike hK, hD⟩, hS.F ht⟩) hS.2.2 dX12_stirNow_112
      refine lv_if_eq (tgt := 81) hx hb dX12_stirNow_65 (by decide) (fun cc => ?_) (fun cc => ?_)
      ·
        replace hf := ite_t ((z_eq0 hr7).mp cc) hf
        clear cc
        exact hJ9  _ _ _ (lv_sub hl [0] rfl) hP hD hS hf
      ·
        replace hf := ite_f (fun h9 => cc ((z_eq0 hr7).mpr h9)) hf
        clear cc
        refine lv_aload_n hx hb dX12_stirNow_68 rfl (lv_at hl 0 rfl) ?_
        refine lv_bipush (v := Int32.ofInt (112 : Int)) hx hb dX12_stirNow_69 (by decide) ?_
        refine lv_iconst (v := Int32.ofInt (0 : Int)) hx hb dX12_stirNow_71 (by decide) ?_
        refine lv_iconst (v := Int32.ofInt (0 : Int)) hx hb dX12_stirNow_72 (by decide) ?_
        have hq := bd1_s hf
        clear hf
        obtain ⟨z14, hcall, hf⟩ := hq
        refine gnI (va_runV (As := [.int (Int32.ofInt (112 : Int)), .int (Int32.ofInt (0 : Int)), .int (Int32.ofInt (0 : Int))]) (rest := []) ⟨hx, hb, hml, hown, hts⟩ (c_X12_ends (l := l) (D := D) (G := G) (sz := H.size) (a_p0 := a_p0) (a_p0_st := a_p0_st) (a_p0_isKept := a_p0_isKept) (a_p0_brings := a_p0_brings) (a_p0_need := a_p0_need) (a_p0_draft := a_p0_draft) (a_p0_dStir := a_p0_dStir) (a_p0_dNeed := a_p0_dNeed) (a_p0_tape := a_p0_tape) (a_p0_places := a_p0_places) (a_p0_stirred := a_p0_stirred) (a_p0_ways := a_p0_ways) (a_p0_waysThen := a_p0_waysThen) (a_p0_stays := a_p0_stays) (a_p0_fewest := a_p0_fewest) (a_p0_bowls := a_p0_bowls) (a_p0_has := a_p0_has) (a_p0_goesOn := a_p0_goesOn) (a_p0_isThere := a_p0_isThere) (a_p0_isThereThen := a_p0_isThereThen) (a_p0_bestRow := a_p0_bestRow) (a_p0_lanes := a_p0_lanes) (a_p0_sizes := a_p0_sizes) (a_p0_cells := a_p0_cells) (i_p0_seats := i_p0_seats) (i_p0_stirs := i_p0_stirs) (i_p0_dSeats := i_p0_dSeats) (i_p0_dStirs := i_p0_dStirs) (i_p0_told := i_p0_told) (i_p0_highest := i_p0_highest) (i_p0_taped := i_p0_taped) (i_p0_pos := i_p0_pos) (i_p0_from := i_p0_from) (i_p0_sort := i_p0_sort) (i_p0_value := i_p0_value) (i_p0_fault := i_p0_fault) (i_p0_wrongAt := i_p0_wrongAt) (i_p0_torn := i_p0_torn) (v_p0_tape := v_p0_tape) (x1 := (112 : Int)) (x2 := (0 : Int)) (x3 := (0 : Int)) (r := z14) (hf := hcall)) (cwV 3 hts gX12_stirNow_X12_ends rfl rfl rfl hdV_yX12_ends_RX12 ⟨Nat.le_of_ble_eq_true rfl, Nat.le_of_ble_eq_true rfl⟩) (preG_V (ci := 12) (q := (RX12, TX12, 37)) (hP.sub [0, 1] rfl) (hD.sub [0, 1] rfl rfl) hK rfl rfl) rfl rfl hl.1 rfl (lv_room (Nat.le_of_ble_eq_true rfl)) dX12_stirNow_73 ⟨Nat.le_of_ble_eq_true rfl, Nat.le_of_ble_eq_true rfl⟩) hP hD hS hA [0, 1] rfl (fun H locs hP hD hS => ?_)
        clear hcall
        have hr14 := ck_c hf
        replace hf := ck_r hf
        refine lv_if_eq (tgt := 81) hx hb dX12_stirNow_76 (by decide) (fun cc => ?_) (fun cc => ?_)
        ·
          replace hf := ite_t ((z_eq0 hr14).mp cc) hf
          clear cc
          exact hJ9  _ _ _ (lv_sub hl [0] rfl) hP hD hS hf
        ·
          replace hf := ite_f (fun h9 => cc ((z_eq0 hr14).mpr h9)) hf
          clear cc
          refine lv_iconst (v := Int32.ofInt (2 : Int)) hx hb dX12_stirNow_79 (by decide) ?_
          obtain rfl := ou1 hf
          rw [hQ]
          exact W.iret hx hb hr (fun t ht hW => ⟨⟨_, (), rfl, rfl, by rw [ht]; exact hP, va_K.moved hW.alike hK, hD⟩, hS.F ht⟩) hS.2.2 dX12_stirNow_80
    refine lv_if_eq (tgt := 54) hx hb dX12_stirNow_38 (by decide) (fun cc => ?_) (fun cc => ?_)
    ·
      replace hf := ite_t ((z_eq0 hr4).mp cc) hf
      clear cc
      exact hJ6  _ _ _ (lv_sub hl [0] rfl) hP hD hS hf
    ·
      replace hf := ite_f (fun h9 => cc ((z_eq0 hr4).mpr h9)) hf
      clear cc
      refine lv_aload_n hx hb dX12_stirNow_41 rfl (lv_at hl 0 rfl) ?_
      refine lv_bipush (v := Int32.ofInt (112 : Int)) hx hb dX12_stirNow_42 (by decide) ?_
      refine lv_iconst (v := Int32.ofInt (0 : Int)) hx hb dX12_stirNow_44 (by decide) ?_
      refine lv_iconst (v := Int32.ofInt (0 : Int)) hx hb dX12_stirNow_45 (by decide) ?_
      have hq := bd1_s hf
      clear hf
      obtain ⟨z16, hcall, hf⟩ := hq
      refine gnI (va_runV (As := [.int (Int32.ofInt (112 : Int)), .int (Int32.ofInt (0 : Int)), .int (Int32.ofInt (0 : Int))]) (rest := []) ⟨hx, hb, hml, hown, hts⟩ (c_X12_ends (l := l) (D := D) (G := G) (sz := H.size) (a_p0 := a_p0) (a_p0_st := a_p0_st) (a_p0_isKept := a_p0_isKept) (a_p0_brings := a_p0_brings) (a_p0_need := a_p0_need) (a_p0_draft := a_p0_draft) (a_p0_dStir := a_p0_dStir) (a_p0_dNeed := a_p0_dNeed) (a_p0_tape := a_p0_tape) (a_p0_places := a_p0_places) (a_p0_stirred := a_p0_stirred) (a_p0_ways := a_p0_ways) (a_p0_waysThen := a_p0_waysThen) (a_p0_stays := a_p0_stays) (a_p0_fewest := a_p0_fewest) (a_p0_bowls := a_p0_bowls) (a_p0_has := a_p0_has) (a_p0_goesOn := a_p0_goesOn) (a_p0_isThere := a_p0_isThere) (a_p0_isThereThen := a_p0_isThereThen) (a_p0_bestRow := a_p0_bestRow) (a_p0_lanes := a_p0_lanes) (a_p0_sizes := a_p0_sizes) (a_p0_cells := a_p0_cells) (i_p0_seats := i_p0_seats) (i_p0_stirs := i_p0_stirs) (i_p0_dSeats := i_p0_dSeats) (i_p0_dStirs := i_p0_dStirs) (i_p0_told := i_p0_told) (i_p0_highest := i_p0_highest) (i_p0_taped := i_p0_taped) (i_p0_pos := i_p0_pos) (i_p0_from := i_p0_from) (i_p0_sort := i_p0_sort) (i_p0_value := i_p0_value) (i_p0_fault := i_p0_fault) (i_p0_wrongAt := i_p0_wrongAt) (i_p0_torn := i_p0_torn) (v_p0_tape := v_p0_tape) (x1 := (112 : Int)) (x2 := (0 : Int)) (x3 := (0 : Int)) (r := z16) (hf := hcall)) (cwV 3 hts gX12_stirNow_X12_ends rfl rfl rfl hdV_yX12_ends_RX12 ⟨Nat.le_of_ble_eq_true rfl, Nat.le_of_ble_eq_true rfl⟩) (preG_V (ci := 12) (q := (RX12, TX12, 37)) (hP.sub [0, 1] rfl) (hD.sub [0, 1] rfl rfl) hK rfl rfl) rfl rfl hl.1 rfl (lv_room (Nat.le_of_ble_eq_true rfl)) dX12_stirNow_46 ⟨Nat.le_of_ble_eq_true rfl, Nat.le_of_ble_eq_true rfl⟩) hP hD hS hA [0, 1] rfl (fun H locs hP hD hS => ?_)
      clear hcall
      have hr16 := ck_c hf
      replace hf := ck_r hf
      refine lv_if_eq (tgt := 54) hx hb dX12_stirNow_49 (by decide) (fun cc => ?_) (fun cc => ?_)
      ·
        replace hf := ite_t ((z_eq0 hr16).mp cc) hf
        clear cc
        exact hJ6  _ _ _ (lv_sub hl [0] rfl) hP hD hS hf
      ·
        replace hf := ite_f (fun h9 => cc ((z_eq0 hr16).mpr h9)) hf
        clear cc
        refine lv_iconst (v := Int32.ofInt (1 : Int)) hx hb dX12_stirNow_52 (by decide) ?_
        obtain rfl := ou1 hf
        rw [hQ]
        exact W.iret hx hb hr (fun t ht hW => ⟨⟨_, (), rfl, rfl, by rw [ht]; exact hP, va_K.moved hW.alike hK, hD⟩, hS.F ht⟩) hS.2.2 dX12_stirNow_53
  refine lv_if_eq (tgt := 27) hx hb dX12_stirNow_11 (by decide) (fun cc => ?_) (fun cc => ?_)
  ·
    replace hf := ite_t ((z_eq0 hr1).mp cc) hf
    clear cc
    exact hJ3  _ _ _ (lv_sub hl [0] rfl) hP hD hS hf
  ·
    replace hf := ite_f (fun h9 => cc ((z_eq0 hr1).mpr h9)) hf
    clear cc
    refine lv_aload_n hx hb dX12_stirNow_14 rfl (lv_at hl 0 rfl) ?_
    refine lv_bipush (v := Int32.ofInt (110 : Int)) hx hb dX12_stirNow_15 (by decide) ?_
    refine lv_iconst (v := Int32.ofInt (0 : Int)) hx hb dX12_stirNow_17 (by decide) ?_
    refine lv_iconst (v := Int32.ofInt (0 : Int)) hx hb dX12_stirNow_18 (by decide) ?_
    have hq := bd1_s hf
    clear hf
    obtain ⟨z18, hcall, hf⟩ := hq
    refine gnI (va_runV (As := [.int (Int32.ofInt (110 : Int)), .int (Int32.ofInt (0 : Int)), .int (Int32.ofInt (0 : Int))]) (rest := []) ⟨hx, hb, hml, hown, hts⟩ (c_X12_ends (l := l) (D := D) (G := G) (sz := H.size) (a_p0 := a_p0) (a_p0_st := a_p0_st) (a_p0_isKept := a_p0_isKept) (a_p0_brings := a_p0_brings) (a_p0_need := a_p0_need) (a_p0_draft := a_p0_draft) (a_p0_dStir := a_p0_dStir) (a_p0_dNeed := a_p0_dNeed) (a_p0_tape := a_p0_tape) (a_p0_places := a_p0_places) (a_p0_stirred := a_p0_stirred) (a_p0_ways := a_p0_ways) (a_p0_waysThen := a_p0_waysThen) (a_p0_stays := a_p0_stays) (a_p0_fewest := a_p0_fewest) (a_p0_bowls := a_p0_bowls) (a_p0_has := a_p0_has) (a_p0_goesOn := a_p0_goesOn) (a_p0_isThere := a_p0_isThere) (a_p0_isThereThen := a_p0_isThereThen) (a_p0_bestRow := a_p0_bestRow) (a_p0_lanes := a_p0_lanes) (a_p0_sizes := a_p0_sizes) (a_p0_cells := a_p0_cells) (i_p0_seats := i_p0_seats) (i_p0_stirs := i_p0_stirs) (i_p0_dSeats := i_p0_dSeats) (i_p0_dStirs := i_p0_dStirs) (i_p0_told := i_p0_told) (i_p0_highest := i_p0_highest) (i_p0_taped := i_p0_taped) (i_p0_pos := i_p0_pos) (i_p0_from := i_p0_from) (i_p0_sort := i_p0_sort) (i_p0_value := i_p0_value) (i_p0_fault := i_p0_fault) (i_p0_wrongAt := i_p0_wrongAt) (i_p0_torn := i_p0_torn) (v_p0_tape := v_p0_tape) (x1 := (110 : Int)) (x2 := (0 : Int)) (x3 := (0 : Int)) (r := z18) (hf := hcall)) (cwV 3 hts gX12_stirNow_X12_ends rfl rfl rfl hdV_yX12_ends_RX12 ⟨Nat.le_of_ble_eq_true rfl, Nat.le_of_ble_eq_true rfl⟩) (preG_V (ci := 12) (q := (RX12, TX12, 37)) (hP.sub [0, 1] rfl) (hD.sub [0, 1] rfl rfl) hK rfl rfl) rfl rfl hl.1 rfl (lv_room (Nat.le_of_ble_eq_true rfl)) dX12_stirNow_19 ⟨Nat.le_of_ble_eq_true rfl, Nat.le_of_ble_eq_true rfl⟩) hP hD hS hA [0, 1] rfl (fun H locs hP hD hS => ?_)
    clear hcall
    have hr18 := ck_c hf
    replace hf := ck_r hf
    refine lv_if_eq (tgt := 27) hx hb dX12_stirNow_22 (by decide) (fun cc => ?_) (fun cc => ?_)
    ·
      replace hf := ite_t ((z_eq0 hr18).mp cc) hf
      clear cc
      exact hJ3  _ _ _ (lv_sub hl [0] rfl) hP hD hS hf
    ·
      replace hf := ite_f (fun h9 => cc ((z_eq0 hr18).mpr h9)) hf
      clear cc
      refine lv_iconst (v := Int32.ofInt (0 : Int)) hx hb dX12_stirNow_25 (by decide) ?_
      obtain rfl := ou1 hf
      rw [hQ]
      exact W.iret hx hb hr (fun t ht hW => ⟨⟨_, (), rfl, rfl, by rw [ht]; exact hP, va_K.moved hW.alike hK, hD⟩, hS.F ht⟩) hS.2.2 dX12_stirNow_26

noncomputable def f_X12_lineNow (i_p0_taped : Int) (i_p0_pos : Int) (i_p0_from : Int) (v_p0_tape : (Int → Int)) : Option (Int) := (bd1 (f_X12_is i_p0_taped i_p0_pos i_p0_from v_p0_tape (5 : Int) (115 : Int) (101 : Int) (97 : Int)) (fun (z1 : Int) => (ck (z_r32 z1) (jn (bd1 (f_X12_is i_p0_taped i_p0_pos i_p0_from v_p0_tape (3 : Int) (112 : Int) (111 : Int) (116 : Int)) (fun (z4 : Int) => (ck (z_r32 z4) (if z4 = (0 : Int) then (bd1 (f_X12_is i_p0_taped i_p0_pos i_p0_from v_p0_tape (4 : Int) (98 : Int) (111 : Int) (110 : Int)) (fun (z6 : Int) => (ck (z_r32 z6) (jn (bd1 (f_X12_is i_p0_taped i_p0_pos i_p0_from v_p0_tape (4 : Int) (107 : Int) (105 : Int) (110 : Int)) (fun (z9 : Int) => (ck (z_r32 z9) (jn (bd1 (f_X12_is i_p0_taped i_p0_pos i_p0_from v_p0_tape (6 : Int) (102 : Int) (114 : Int) (105 : Int)) (fun (z12 : Int) => (ck (z_r32 z12) (jn (bd1 (f_X12_is i_p0_taped i_p0_pos i_p0_from v_p0_tape (6 : Int) (115 : Int) (112 : Int) (111 : Int)) (fun (z15 : Int) => (ck (z_r32 z15) (jn (bd1 (f_X12_is i_p0_taped i_p0_pos i_p0_from v_p0_tape (4 : Int) (110 : Int) (101 : Int) (101 : Int)) (fun (z18 : Int) => (ck (z_r32 z18) (if z18 = (0 : Int) then (bd1 (f_X12_stirNow i_p0_taped i_p0_pos i_p0_from v_p0_tape) (fun (z20 : Int) => (some z20))) else (bd1 (f_X12_ends i_p0_taped i_p0_from v_p0_tape (100 : Int) (0 : Int) (0 : Int)) (fun (z21 : Int) => (ck (z_r32 z21) (if z21 = (0 : Int) then (bd1 (f_X12_stirNow i_p0_taped i_p0_pos i_p0_from v_p0_tape) (fun (z23 : Int) => (some z23))) else (some (10 : Int)))))))))) (fun (J17 : Option (Int)) => (if z15 = (0 : Int) then (J17) else (bd1 (f_X12_ends i_p0_taped i_p0_from v_p0_tape (111 : Int) (110 : Int) (115 : Int)) (fun (z24 : Int) => (ck (z_r32 z24) (if z24 = (0 : Int) then (J17) else (some (9 : Int)))))))))))) (fun (J14 : Option (Int)) => (if z12 = (0 : Int) then (J14) else (bd1 (f_X12_ends i_p0_taped i_p0_from v_p0_tape (101 : Int) (110 : Int) (100 : Int)) (fun (z26 : Int) => (ck (z_r32 z26) (if z26 = (0 : Int) then (J14) else (some (8 : Int)))))))))))) (fun (J11 : Option (Int)) => (if z9 = (0 : Int) then (J11) else (bd1 (f_X12_ends i_p0_taped i_p0_from v_p0_tape (103 : Int) (0 : Int) (0 : Int)) (fun (z28 : Int) => (ck (z_r32 z28) (if z28 = (0 : Int) then (J11) else (some (7 : Int)))))))))))) (fun (J8 : Option (Int)) => (if z6 = (0 : Int) then (J8) else (bd1 (f_X12_ends i_p0_taped i_p0_from v_p0_tape (101 : Int) (0 : Int) (0 : Int)) (fun (z30 : Int) => (ck (z_r32 z30) (if z30 = (0 : Int) then (J8) else (some (6 : Int)))))))))))) else (some (5 : Int)))))) (fun (J3 : Option (Int)) => (if z1 = (0 : Int) then (J3) else (bd1 (f_X12_ends i_p0_taped i_p0_from v_p0_tape (116 : Int) (115 : Int) (0 : Int)) (fun (z32 : Int) => (ck (z_r32 z32) (if z32 = (0 : Int) then (J3) else (some (4 : Int))))))))))))
abbrev rm_X12_lineNow : Room := { frames := 3, cells := 0, slots := 0, locals := 65 }
theorem hdV_yX12_stirNow_RX12 : yX12_stirNow.cls = RX12 ∧ yX12_stirNow.cls ≠ "java/lang/invoke/MethodHandle" ∧ yX12_stirNow.cls ≠ "java/lang/invoke/VarHandle" ∧ (parseMethodDescriptor yX12_stirNow.desc).map (fun d => d.parameters.length) = some 0 := by decide +kernel
set_option maxHeartbeats 8000000 in
set_option maxRecDepth 100000 in
theorem c_X12_lineNow (l : Launch) (D : va_G) (G : Nat → ClassId) (sz : Nat) (a_p0 : Nat) (a_p0_st : Nat) (a_p0_isKept : Nat) (a_p0_brings : Nat) (a_p0_need : Nat) (a_p0_draft : Nat) (a_p0_dStir : Nat) (a_p0_dNeed : Nat) (a_p0_tape : Nat) (a_p0_places : Nat) (a_p0_stirred : Nat) (a_p0_ways : Nat) (a_p0_waysThen : Nat) (a_p0_stays : Nat) (a_p0_fewest : Nat) (a_p0_bowls : Nat) (a_p0_has : Nat) (a_p0_goesOn : Nat) (a_p0_isThere : Nat) (a_p0_isThereThen : Nat) (a_p0_bestRow : Nat) (a_p0_lanes : Nat) (a_p0_sizes : Nat) (a_p0_cells : Nat) (i_p0_seats : Int) (i_p0_stirs : Int) (i_p0_dSeats : Int) (i_p0_dStirs : Int) (i_p0_told : Int) (i_p0_highest : Int) (i_p0_taped : Int) (i_p0_pos : Int) (i_p0_from : Int) (i_p0_sort : Int) (i_p0_value : Int) (i_p0_fault : Int) (i_p0_wrongAt : Int) (i_p0_torn : Int) (v_p0_tape : (Int → Int)) (r : Int) (hf : f_X12_lineNow i_p0_taped i_p0_pos i_p0_from v_p0_tape = some r) : Met l yX12_lineNow wsX12_lineNow rm_X12_lineNow (pcG D G [.ref a_p0] sz [(a_p0, .inr (12, [.ref a_p0_st, .ref a_p0_isKept, .int (Int32.ofInt i_p0_seats), .int (Int32.ofInt i_p0_stirs), .ref a_p0_brings, .ref a_p0_need, .ref a_p0_draft, .int (Int32.ofInt i_p0_dSeats), .int (Int32.ofInt i_p0_dStirs), .ref a_p0_dStir, .ref a_p0_dNeed, .int (Int32.ofInt i_p0_told), .int (Int32.ofInt i_p0_highest), .ref a_p0_tape, .int (Int32.ofInt i_p0_taped), .int (Int32.ofInt i_p0_pos), .int (Int32.ofInt i_p0_from), .int (Int32.ofInt i_p0_sort), .int (Int32.ofInt i_p0_value), .int (Int32.ofInt i_p0_fault), .int (Int32.ofInt i_p0_wrongAt), .ref a_p0_places, .ref a_p0_stirred, .ref a_p0_ways, .ref a_p0_waysThen, .ref a_p0_stays, .ref a_p0_fewest, .ref a_p0_bowls, .ref a_p0_has, .ref a_p0_goesOn, .ref a_p0_isThere, .ref a_p0_isThereThen, .ref a_p0_bestRow, .ref a_p0_lanes, .ref a_p0_sizes, .ref a_p0_cells, .int (Int32.ofInt i_p0_torn)])), (a_p0_tape, .inl (G 1, 320, .inl (zA v_p0_tape)))]) (qcI D G (Int32.ofInt r) [(a_p0, .inr (12, [.ref a_p0_st, .ref a_p0_isKept, .int (Int32.ofInt i_p0_seats), .int (Int32.ofInt i_p0_stirs), .ref a_p0_brings, .ref a_p0_need, .ref a_p0_draft, .int (Int32.ofInt i_p0_dSeats), .int (Int32.ofInt i_p0_dStirs), .ref a_p0_dStir, .ref a_p0_dNeed, .int (Int32.ofInt i_p0_told), .int (Int32.ofInt i_p0_highest), .ref a_p0_tape, .int (Int32.ofInt i_p0_taped), .int (Int32.ofInt i_p0_pos), .int (Int32.ofInt i_p0_from), .int (Int32.ofInt i_p0_sort), .int (Int32.ofInt i_p0_value), .int (Int32.ofInt i_p0_fault), .int (Int32.ofInt i_p0_wrongAt), .ref a_p0_places, .ref a_p0_stirred, .ref a_p0_ways, .ref a_p0_waysThen, .ref a_p0_stays, .ref a_p0_fewest, .ref a_p0_bowls, .ref a_p0_has, .ref a_p0_goesOn, .ref a_p0_isThere, .ref a_p0_isThereThen, .ref a_p0_bestRow, .ref a_p0_lanes, .ref a_p0_sizes, .ref a_p0_cells, .int (Int32.ofInt i_p0_torn)])), (a_p0_tape, .inl (G 1, 320, .inl (zA v_p0_tape)))] (va_A [(a_p0, .inr (12, [.ref a_p0_st, .ref a_p0_isKept, .int (Int32.ofInt i_p0_seats), .int (Int32.ofInt i_p0_stirs), .ref a_p0_brings, .ref a_p0_need, .ref a_p0_draft, .int (Int32.ofInt i_p0_dSeats), .int (Int32.ofInt i_p0_dStirs), .ref a_p0_dStir, .ref a_p0_dNeed, .int (Int32.ofInt i_p0_told), .int (Int32.ofInt i_p0_highest), .ref a_p0_tape, .int (Int32.ofInt i_p0_taped), .int (Int32.ofInt i_p0_pos), .int (Int32.ofInt i_p0_from), .int (Int32.ofInt i_p0_sort), .int (Int32.ofInt i_p0_value), .int (Int32.ofInt i_p0_fault), .int (Int32.ofInt i_p0_wrongAt), .ref a_p0_places, .ref a_p0_stirred, .ref a_p0_ways, .ref a_p0_waysThen, .ref a_p0_stays, .ref a_p0_fewest, .ref a_p0_bowls, .ref a_p0_has, .ref a_p0_goesOn, .ref a_p0_isThere, .ref a_p0_isThereThen, .ref a_p0_bestRow, .ref a_p0_lanes, .ref a_p0_sizes, .ref a_p0_cells, .int (Int32.ofInt i_p0_torn)])), (a_p0_tape, .inl (G 1, 320, .inl (zA v_p0_tape)))] sz)) 0 0 (va_A [(a_p0, .inr (12, [.ref a_p0_st, .ref a_p0_isKept, .int (Int32.ofInt i_p0_seats), .int (Int32.ofInt i_p0_stirs), .ref a_p0_brings, .ref a_p0_need, .ref a_p0_draft, .int (Int32.ofInt i_p0_dSeats), .int (Int32.ofInt i_p0_dStirs), .ref a_p0_dStir, .ref a_p0_dNeed, .int (Int32.ofInt i_p0_told), .int (Int32.ofInt i_p0_highest), .ref a_p0_tape, .int (Int32.ofInt i_p0_taped), .int (Int32.ofInt i_p0_pos), .int (Int32.ofInt i_p0_from), .int (Int32.ofInt i_p0_sort), .int (Int32.ofInt i_p0_value), .int (Int32.ofInt i_p0_fault), .int (Int32.ofInt i_p0_wrongAt), .ref a_p0_places, .ref a_p0_stirred, .ref a_p0_ways, .ref a_p0_waysThen, .ref a_p0_stays, .ref a_p0_fewest, .ref a_p0_bowls, .ref a_p0_has, .ref a_p0_goesOn, .ref a_p0_isThere, .ref a_p0_isThereThen, .ref a_p0_bestRow, .ref a_p0_lanes, .ref a_p0_sizes, .ref a_p0_cells, .int (Int32.ofInt i_p0_torn)])), (a_p0_tape, .inl (G 1, 320, .inl (zA v_p0_tape)))] sz) := by
  refine Met.ofW (cc := cX12_lineNow) (maxL := 1) (ret := (some .int)) (by decide) rfl ?_
  intro p e s m args below meth c s₁ B hml hv
  obtain ⟨rfl, hsz, hP, hK, hD0⟩ := hv
  have hx := B.exec
  have hb := B.bytes
  have hr := B.returns
  have hts := atoms_spec (ws := wsX12_lineNow) B.pre
  have hown : s.vm.findClass RX12 = some m.cls := findClass_of_methodNamed B.named
  have hlocks := B.notSynchronized
  subst hsz
  have hD := hD0.self (sz := s.heap.size)
  generalize hAe : va_A [(a_p0, .inr (12, [.ref a_p0_st, .ref a_p0_isKept, .int (Int32.ofInt i_p0_seats), .int (Int32.ofInt i_p0_stirs), .ref a_p0_brings, .ref a_p0_need, .ref a_p0_draft, .int (Int32.ofInt i_p0_dSeats), .int (Int32.ofInt i_p0_dStirs), .ref a_p0_dStir, .ref a_p0_dNeed, .int (Int32.ofInt i_p0_told), .int (Int32.ofInt i_p0_highest), .ref a_p0_tape, .int (Int32.ofInt i_p0_taped), .int (Int32.ofInt i_p0_pos), .int (Int32.ofInt i_p0_from), .int (Int32.ofInt i_p0_sort), .int (Int32.ofInt i_p0_value), .int (Int32.ofInt i_p0_fault), .int (Int32.ofInt i_p0_wrongAt), .ref a_p0_places, .ref a_p0_stirred, .ref a_p0_ways, .ref a_p0_waysThen, .ref a_p0_stays, .ref a_p0_fewest, .ref a_p0_bowls, .ref a_p0_has, .ref a_p0_goesOn, .ref a_p0_isThere, .ref a_p0_isThereThen, .ref a_p0_bestRow, .ref a_p0_lanes, .ref a_p0_sizes, .ref a_p0_cells, .int (Int32.ofInt i_p0_torn)])), (a_p0_tape, .inl (G 1, 320, .inl (zA v_p0_tape)))] s.heap.size = A at hD ⊢
  have hA : ∀ q : Nat, s.heap.size ≤ q → A q := fun q h => by rw [← hAe]; exact Or.inr h
  clear hAe hD0
  have hS : va_S A s.heap s.heap [] := va_S.rf
  have hl := lv_entry ([.ref a_p0]) (n := 1) (Nat.le_of_ble_eq_true rfl)
  rw [lg_entry_eq]
  generalize (lg_sl ([.ref a_p0]) ++ List.replicate (1 - (lg_sl ([.ref a_p0])).length) Slot.unset).toArray = ls at hl ⊢
  have hl : lv_has ls 1 [(0, .ref a_p0)] := hl
  refine W_nameQ (fun Q hQ => ?_)
  obtain ⟨H, hH⟩ : ∃ H, H = s.heap := ⟨_, rfl⟩
  replace hS : va_S A s.heap H [] := by rw [hH]; exact hS
  replace hP : va_P D vwCl [(a_p0, .inr (12, [.ref a_p0_st, .ref a_p0_isKept, .int (Int32.ofInt i_p0_seats), .int (Int32.ofInt i_p0_stirs), .ref a_p0_brings, .ref a_p0_need, .ref a_p0_draft, .int (Int32.ofInt i_p0_dSeats), .int (Int32.ofInt i_p0_dStirs), .ref a_p0_dStir, .ref a_p0_dNeed, .int (Int32.ofInt i_p0_told), .int (Int32.ofInt i_p0_highest), .ref a_p0_tape, .int (Int32.ofInt i_p0_taped), .int (Int32.ofInt i_p0_pos), .int (Int32.ofInt i_p0_from), .int (Int32.ofInt i_p0_sort), .int (Int32.ofInt i_p0_value), .int (Int32.ofInt i_p0_fault), .int (Int32.ofInt i_p0_wrongAt), .ref a_p0_places, .ref a_p0_stirred, .ref a_p0_ways, .ref a_p0_waysThen, .ref a_p0_stays, .ref a_p0_fewest, .ref a_p0_bowls, .ref a_p0_has, .ref a_p0_goesOn, .ref a_p0_isThere, .ref a_p0_isThereThen, .ref a_p0_bestRow, .ref a_p0_lanes, .ref a_p0_sizes, .ref a_p0_cells, .int (Int32.ofInt i_p0_torn)])), (a_p0_tape, .inl (G 1, 320, .inl (zA v_p0_tape)))] H := by rw [hH]; exact hP
  rw [← hH]
  clear hH
  unfold f_X12_lineNow at hf
  refine lv_aload_n hx hb dX12_lineNow_0 rfl (lv_at hl 0 rfl) ?_
  refine lv_iconst (v := Int32.ofInt (5 : Int)) hx hb dX12_lineNow_1 (by decide) ?_
  refine lv_bipush (v := Int32.ofInt (115 : Int)) hx hb dX12_lineNow_2 (by decide) ?_
  refine lv_bipush (v := Int32.ofInt (101 : Int)) hx hb dX12_lineNow_4 (by decide) ?_
  refine lv_bipush (v := Int32.ofInt (97 : Int)) hx hb dX12_lineNow_6 (by decide) ?_
  have hq := bd1_s hf
  clear hf
  obtain ⟨z1, hcall, hf⟩ := hq
  refine gnI (va_runV (As := [.int (Int32.ofInt (5 : Int)), .int (Int32.ofInt (115 : Int)), .int (Int32.ofInt (101 : Int)), .int (Int32.ofInt (97 : Int))]) (rest := []) ⟨hx, hb, hml, hown, hts⟩ (c_X12_is (l := l) (D := D) (G := G) (sz := H.size) (a_p0 := a_p0) (a_p0_st := a_p0_st) (a_p0_isKept := a_p0_isKept) (a_p0_brings := a_p0_brings) (a_p0_need := a_p0_need) (a_p0_draft := a_p0_draft) (a_p0_dStir := a_p0_dStir) (a_p0_dNeed := a_p0_dNeed) (a_p0_tape := a_p0_tape) (a_p0_places := a_p0_places) (a_p0_stirred := a_p0_stirred) (a_p0_ways := a_p0_ways) (a_p0_waysThen := a_p0_waysThen) (a_p0_stays := a_p0_stays) (a_p0_fewest := a_p0_fewest) (a_p0_bowls := a_p0_bowls) (a_p0_has := a_p0_has) (a_p0_goesOn := a_p0_goesOn) (a_p0_isThere := a_p0_isThere) (a_p0_isThereThen := a_p0_isThereThen) (a_p0_bestRow := a_p0_bestRow) (a_p0_lanes := a_p0_lanes) (a_p0_sizes := a_p0_sizes) (a_p0_cells := a_p0_cells) (i_p0_seats := i_p0_seats) (i_p0_stirs := i_p0_stirs) (i_p0_dSeats := i_p0_dSeats) (i_p0_dStirs := i_p0_dStirs) (i_p0_told := i_p0_told) (i_p0_highest := i_p0_highest) (i_p0_taped := i_p0_taped) (i_p0_pos := i_p0_pos) (i_p0_from := i_p0_from) (i_p0_sort := i_p0_sort) (i_p0_value := i_p0_value) (i_p0_fault := i_p0_fault) (i_p0_wrongAt := i_p0_wrongAt) (i_p0_torn := i_p0_torn) (v_p0_tape := v_p0_tape) (x1 := (5 : Int)) (x2 := (115 : Int)) (x3 := (101 : Int)) (x4 := (97 : Int)) (r := z1) (hf := hcall)) (cwV 4 hts gX12_lineNow_X12_is rfl rfl rfl hdV_yX12_is_RX12 ⟨Nat.le_of_ble_eq_true rfl, Nat.le_of_ble_eq_true rfl⟩) (preG_V (ci := 12) (q := (RX12, TX12, 37)) (hP.sub [0, 1] rfl) (hD.sub [0, 1] rfl rfl) hK rfl rfl) rfl rfl hl.1 rfl (lv_room (Nat.le_of_ble_eq_true rfl)) dX12_lineNow_8 ⟨Nat.le_of_ble_eq_true rfl, Nat.le_of_ble_eq_true rfl⟩) hP hD hS hA [0, 1] rfl (fun H locs hP hD hS => ?_)
  clear hcall
  have hr1 := ck_c hf
  replace hf := ck_r hf
  have hq := jn_i hf
  clear hf
  obtain ⟨J3, eJ3, hf⟩ := hq
  have hJ3 : ∀  (ls : Array Slot) (H : Heap) (locs : List Loc), lv_has ls 1 [(0, .ref a_p0)] → va_P D vwCl [(a_p0, .inr (12, [.ref a_p0_st, .ref a_p0_isKept, .int (Int32.ofInt i_p0_seats), .int (Int32.ofInt i_p0_stirs), .ref a_p0_brings, .ref a_p0_need, .ref a_p0_draft, .int (Int32.ofInt i_p0_dSeats), .int (Int32.ofInt i_p0_dStirs), .ref a_p0_dStir, .ref a_p0_dNeed, .int (Int32.ofInt i_p0_told), .int (Int32.ofInt i_p0_highest), .ref a_p0_tape, .int (Int32.ofInt i_p0_taped), .int (Int32.ofInt i_p0_pos), .int (Int32.ofInt i_p0_from), .int (Int32.ofInt i_p0_sort), .int (Int32.ofInt i_p0_value), .int (Int32.ofInt i_p0_fault), .int (Int32.ofInt i_p0_wrongAt), .ref a_p0_places, .ref a_p0_stirred, .ref a_p0_ways, .ref a_p0_waysThen, .ref a_p0_stays, .ref a_p0_fewest, .ref a_p0_bowls, .ref a_p0_has, .ref a_p0_goesOn, .ref a_p0_isThere, .ref a_p0_isThereThen, .ref a_p0_bestRow, .ref a_p0_lanes, .ref a_p0_sizes, .ref a_p0_cells, .int (Int32.ofInt i_p0_torn)])), (a_p0_tape, .inl (G 1, 320, .inl (zA v_p0_tape)))] H → va_D A [(a_p0, .inr (12, [.ref a_p0_st, .ref a_p0_isKept, .int (Int32.ofInt i_p0_seats), .int (Int32.ofInt i_p0_stirs), .ref a_p0_brings, .ref a_p0_need, .ref a_p0_draft, .int (Int32.ofInt i_p0_dSeats), .int (Int32.ofInt i_p0_dStirs), .ref a_p0_dStir, .ref a_p0_dNeed, .int (Int32.ofInt i_p0_told), .int (Int32.ofInt i_p0_highest), .ref a_p0_tape, .int (Int32.ofInt i_p0_taped), .int (Int32.ofInt i_p0_pos), .int (Int32.ofInt i_p0_from), .int (Int32.ofInt i_p0_sort), .int (Int32.ofInt i_p0_value), .int (Int32.ofInt i_p0_fault), .int (Int32.ofInt i_p0_wrongAt), .ref a_p0_places, .ref a_p0_stirred, .ref a_p0_ways, .ref a_p0_waysThen, .ref a_p0_stays, .ref a_p0_fewest, .ref a_p0_bowls, .ref a_p0_has, .ref a_p0_goesOn, .ref a_p0_isThere, .ref a_p0_isThereThen, .ref a_p0_bestRow, .ref a_p0_lanes, .ref a_p0_sizes, .ref a_p0_cells, .int (Int32.ofInt i_p0_torn)])), (a_p0_tape, .inl (G 1, 320, .inl (zA v_p0_tape)))] → va_S A s.heap H locs → J3  = some r → W p l e rm_X12_lineNow s m ([.ref a_p0] : List Value).toArray below meth c H locs 0 0 Q (F0 m 28 ls []) := by
    clear hf hl hP hD hS
    intro  ls H locs hl hP hD hS hf
    replace hf := jn0_s eJ3 hf
    refine lv_aload_n hx hb dX12_lineNow_28 rfl (lv_at hl 0 rfl) ?_
    refine lv_iconst (v := Int32.ofInt (3 : Int)) hx hb dX12_lineNow_29 (by decide) ?_
    refine lv_bipush (v := Int32.ofInt (112 : Int)) hx hb dX12_lineNow_30 (by decide) ?_
    refine lv_bipush (v := Int32.ofInt (111 : Int)) hx hb dX12_lineNow_32 (by decide) ?_
    refine lv_bipush (v := Int32.ofInt (116 : Int)) hx hb dX12_lineNow_34 (by decide) ?_
    have hq := bd1_s hf
    clear hf
    obtain ⟨z4, hcall, hf⟩ := hq
    refine gnI (va_runV (As := [.int (Int32.ofInt (3 : Int)), .int (Int32.ofInt (112 : Int)), .int (Int32.ofInt (111 : Int)), .int (Int32.ofInt (116 : Int))]) (rest := []) ⟨hx, hb, hml, hown, hts⟩ (c_X12_is (l := l) (D := D) (G := G) (sz := H.size) (a_p0 := a_p0) (a_p0_st := a_p0_st) (a_p0_isKept := a_p0_isKept) (a_p0_brings := a_p0_brings) (a_p0_need := a_p0_need) (a_p0_draft := a_p0_draft) (a_p0_dStir := a_p0_dStir) (a_p0_dNeed := a_p0_dNeed) (a_p0_tape := a_p0_tape) (a_p0_places := a_p0_places) (a_p0_stirred := a_p0_stirred) (a_p0_ways := a_p0_ways) (a_p0_waysThen := a_p0_waysThen) (a_p0_stays := a_p0_stays) (a_p0_fewest := a_p0_fewest) (a_p0_bowls := a_p0_bowls) (a_p0_has := a_p0_has) (a_p0_goesOn := a_p0_goesOn) (a_p0_isThere := a_p0_isThere) (a_p0_isThereThen := a_p0_isThereThen) (a_p0_bestRow := a_p0_bestRow) (a_p0_lanes := a_p0_lanes) (a_p0_sizes := a_p0_sizes) (a_p0_cells := a_p0_cells) (i_p0_seats := i_p0_seats) (i_p0_stirs := i_p0_stirs) (i_p0_dSeats := i_p0_dSeats) (i_p0_dStirs := i_p0_dStirs) (i_p0_told := i_p0_told) (i_p0_highest := i_p0_highest) (i_p0_taped := i_p0_taped) (i_p0_pos := i_p0_pos) (i_p0_from := i_p0_from) (i_p0_sort := i_p0_sort) (i_p0_value := i_p0_value) (i_p0_fault := i_p0_fault) (i_p0_wrongAt := i_p0_wrongAt) (i_p0_torn := i_p0_torn) (v_p0_tape := v_p0_tape) (x1 := (3 : Int)) (x2 := (112 : Int)) (x3 := (111 : Int)) (x4 := (116 : Int)) (r := z4) (hf := hcall)) (cwV 4 hts gX12_lineNow_X12_is rfl rfl rfl hdV_yX12_is_RX12 ⟨Nat.le_of_ble_eq_true rfl, Nat.le_of_ble_eq_true rfl⟩) (preG_V (ci := 12) (q := (RX12, TX12, 37)) (hP.sub [0, 1] rfl) (hD.sub [0, 1] rfl rfl) hK rfl rfl) rfl rfl hl.1 rfl (lv_room (Nat.le_of_ble_eq_true rfl)) dX12_lineNow_36 ⟨Nat.le_of_ble_eq_true rfl, Nat.le_of_ble_eq_true rfl⟩) hP hD hS hA [0, 1] rfl (fun H locs hP hD hS => ?_)
    clear hcall
    have hr4 := ck_c hf
    replace hf := ck_r hf
    refine lv_if_eq (tgt := 44) hx hb dX12_lineNow_39 (by decide) (fun cc => ?_) (fun cc => ?_)
    ·
      replace hf := ite_t ((z_eq0 hr4).mp cc) hf
      clear cc
      refine lv_aload_n hx hb dX12_lineNow_44 rfl (lv_at hl 0 rfl) ?_
      refine lv_iconst (v := Int32.ofInt (4 : Int)) hx hb dX12_lineNow_45 (by decide) ?_
      refine lv_bipush (v := Int32.ofInt (98 : Int)) hx hb dX12_lineNow_46 (by decide) ?_
      refine lv_bipush (v := Int32.ofInt (111 : Int)) hx hb dX12_lineNow_48 (by decide) ?_
      refine lv_bipush (v := Int32.ofInt (110 : Int)) hx hb dX12_lineNow_50 (by decide) ?_
      have hq := bd1_s hf
      clear hf
      obtain ⟨z6, hcall, hf⟩ := hq
      refine gnI (va_runV (As := [.int (Int32.ofInt (4 : Int)), .int (Int32.ofInt (98 : Int)), .int (Int32.ofInt (111 : Int)), .int (Int32.ofInt (110 : Int))]) (rest := []) ⟨hx, hb, hml, hown, hts⟩ (c_X12_is (l := l) (D := D) (G := G) (sz := H.size) (a_p0 := a_p0) (a_p0_st := a_p0_st) (a_p0_isKept := a_p0_isKept) (a_p0_brings := a_p0_brings) (a_p0_need := a_p0_need) (a_p0_draft := a_p0_draft) (a_p0_dStir := a_p0_dStir) (a_p0_dNeed := a_p0_dNeed) (a_p0_tape := a_p0_tape) (a_p0_places := a_p0_places) (a_p0_stirred := a_p0_stirred) (a_p0_ways := a_p0_ways) (a_p0_waysThen := a_p0_waysThen) (a_p0_stays := a_p0_stays) (a_p0_fewest := a_p0_fewest) (a_p0_bowls := a_p0_bowls) (a_p0_has := a_p0_has) (a_p0_goesOn := a_p0_goesOn) (a_p0_isThere := a_p0_isThere) (a_p0_isThereThen := a_p0_isThereThen) (a_p0_bestRow := a_p0_bestRow) (a_p0_lanes := a_p0_lanes) (a_p0_sizes := a_p0_sizes) (a_p0_cells := a_p0_cells) (i_p0_seats := i_p0_seats) (i_p0_stirs := i_p0_stirs) (i_p0_dSeats := i_p0_dSeats) (i_p0_dStirs := i_p0_dStirs) (i_p0_told := i_p0_told) (i_p0_highest := i_p0_highest) (i_p0_taped := i_p0_taped) (i_p0_pos := i_p0_pos) (i_p0_from := i_p0_from) (i_p0_sort := i_p0_sort) (i_p0_value := i_p0_value) (i_p0_fault := i_p0_fault) (i_p0_wrongAt := i_p0_wrongAt) (i_p0_torn := i_p0_torn) (v_p0_tape := v_p0_tape) (x1 := (4 : Int)) (x2 := (98 : Int)) (x3 := (111 : Int)) (x4 := (110 : Int)) (r := z6) (hf := hcall)) (cwV 4 hts gX12_lineNow_X12_is rfl rfl rfl hdV_yX12_is_RX12 ⟨Nat.le_of_ble_eq_true rfl, Nat.le_of_ble_eq_true rfl⟩) (preG_V (ci := 12) (q := (RX12, TX12, 37)) (hP.sub [0, 1] rfl) (hD.sub [0, 1] rfl rfl) hK rfl rfl) rfl rfl hl.1 rfl (lv_room (Nat.le_of_ble_eq_true rfl)) dX12_lineNow_52 ⟨Nat.le_of_ble_eq_true rfl, Nat.le_of_ble_eq_true rfl⟩) hP hD hS hA [0, 1] rfl (fun H locs hP hD hS => ?_)
      clear hcall
      have hr6 := ck_c hf
      replace hf := ck_r hf
      have hq := jn_i hf
      clear hf
      obtain ⟨J8, eJ8, hf⟩ := hq
      have hJ8 : ∀  (ls : Array Slot) (H : Heap) (locs : List Loc), lv_has ls 1 [(0, .ref a_p0)] → va_P D vwCl [(a_p0, .inr (12, [.ref a_p0_st, .ref a_p0_isKept, .int (Int32.ofInt i_p0_seats), .int (Int32.ofInt i_p0_stirs), .ref a_p0_brings, .ref a_p0_need, .ref a_p0_draft, .int (Int32.ofInt i_p0_dSeats), .int (Int32.ofInt i_p0_dStirs), .ref a_p0_dStir, .ref a_p0_dNeed, .int (Int32.ofInt i_p0_told), .int (Int32.ofInt i_p0_highest), .ref a_p0_tape, .int (Int32.ofInt i_p0_taped), .int (Int32.ofInt i_p0_pos), .int (Int32.ofInt i_p0_from), .int (Int32.ofInt i_p0_sort), .int (Int32.ofInt i_p0_value), .int (Int32.ofInt i_p0_fault), .int (Int32.ofInt i_p0_wrongAt), .ref a_p0_places, .ref a_p0_stirred, .ref a_p0_ways, .ref a_p0_waysThen, .ref a_p0_stays, .ref a_p0_fewest, .ref a_p0_bowls, .ref a_p0_has, .ref a_p0_goesOn, .ref a_p0_isThere, .ref a_p0_isThereThen, .ref a_p0_bestRow, .ref a_p0_lanes, .ref a_p0_sizes, .ref a_p0_cells, .int (Int32.ofInt i_p0_torn)])), (a_p0_tape, .inl (G 1, 320, .inl (zA v_p0_tape)))] H → va_D A [(a_p0, .inr (12, [.ref a_p0_st, .ref a_p0_isKept, .int (Int32.ofInt i_p0_seats), .int (Int32.ofInt i_p0_stirs), .ref a_p0_brings, .ref a_p0_need, .ref a_p0_draft, .int (Int32.ofInt i_p0_dSeats), .int (Int32.ofInt i_p0_dStirs), .ref a_p0_dStir, .ref a_p0_dNeed, .int (Int32.ofInt i_p0_told), .int (Int32.ofInt i_p0_highest), .ref a_p0_tape, .int (Int32.ofInt i_p0_taped), .int (Int32.ofInt i_p0_pos), .int (Int32.ofInt i_p0_from), .int (Int32.ofInt i_p0_sort), .int (Int32.ofInt i_p0_value), .int (Int32.ofInt i_p0_fault), .int (Int32.ofInt i_p0_wrongAt), .ref a_p0_places, .ref a_p0_stirred, .ref a_p0_ways, .ref a_p0_waysThen, .ref a_p0_stays, .ref a_p0_fewest, .ref a_p0_bowls, .ref a_p0_has, .ref a_p0_goesOn, .ref a_p0_isThere, .ref a_p0_isThereThen, .ref a_p0_bestRow, .ref a_p0_lanes, .ref a_p0_sizes, .ref a_p0_cells, .int (Int32.ofInt i_p0_torn)])), (a_p0_tape, .inl (G 1, 320, .inl (zA v_p0_tape)))] → va_S A s.heap H locs → J8  = some r → W p l e rm_X12_lineNow s m ([.ref a_p0] : List Value).toArray below meth c H locs 0 0 Q (F0 m 72 ls []) := by
        clear hf hl hP hD hS
        intro  ls H locs hl hP hD hS hf
        replace hf := jn0_s eJ8 hf
        refine lv_aload_n hx hb dX12_lineNow_72 rfl (lv_at hl 0 rfl) ?_
        refine lv_iconst (v := Int32.ofInt (4 : Int)) hx hb dX12_lineNow_73 (by decide) ?_
        refine lv_bipush (v := Int32.ofInt (107 : Int)) hx hb dX12_lineNow_74 (by decide) ?_
        refine lv_bipush (v := Int32.ofInt (105 : Int)) hx hb dX12_lineNow_76 (by decide) ?_
        refine lv_bipush (v := Int32.ofInt (110 : Int)) hx hb dX12_lineNow_78 (by decide) ?_
        have hq := bd1_s hf
        clear hf
        obtain ⟨z9, hcall, hf⟩ := hq
        refine gnI (va_runV (As := [.int (Int32.ofInt (4 : Int)), .int (Int32.ofInt (107 : Int)), .int (Int32.ofInt (105 : Int)), .int (Int32.ofInt (110 : Int))]) (rest := []) ⟨hx, hb, hml, hown, hts⟩ (c_X12_is (l := l) (D := D) (G := G) (sz := H.size) (a_p0 := a_p0) (a_p0_st := a_p0_st) (a_p0_isKept := a_p0_isKept) (a_p0_brings := a_p0_brings) (a_p0_need := a_p0_need) (a_p0_draft := a_p0_draft) (a_p0_dStir := a_p0_dStir) (a_p0_dNeed := a_p0_dNeed) (a_p0_tape := a_p0_tape) (a_p0_places := a_p0_places) (a_p0_stirred := a_p0_stirred) (a_p0_ways := a_p0_ways) (a_p0_waysThen := a_p0_waysThen) (a_p0_stays := a_p0_stays) (a_p0_fewest := a_p0_fewest) (a_p0_bowls := a_p0_bowls) (a_p0_has := a_p0_has) (a_p0_goesOn := a_p0_goesOn) (a_p0_isThere := a_p0_isThere) (a_p0_isThereThen := a_p0_isThereThen) (a_p0_bestRow := a_p0_bestRow) (a_p0_lanes := a_p0_lanes) (a_p0_sizes := a_p0_sizes) (a_p0_cells := a_p0_cells) (i_p0_seats := i_p0_seats) (i_p0_stirs := i_p0_stirs) (i_p0_dSeats := i_p0_dSeats) (i_p0_dStirs := i_p0_dStirs) (i_p0_told := i_p0_told) (i_p0_highest := i_p0_highest) (i_p0_taped := i_p0_taped) (i_p0_pos := i_p0_pos) (i_p0_from := i_p0_from) (i_p0_sort := i_p0_sort) (i_p0_value := i_p0_value) (i_p0_fault := i_p0_fault) (i_p0_wrongAt := i_p0_wrongAt) (i_p0_torn := i_p0_torn) (v_p0_tape := v_p0_tape) (x1 := (4 : Int)) (x2 := (107 : Int)) (x3 := (105 : Int)) (x4 := (110 : Int)) (r := z9) (hf := hcall)) (cwV 4 hts gX12_lineNow_X12_is rfl rfl rfl hdV_yX12_is_RX12 ⟨Nat.le_of_ble_eq_true rfl, Nat.le_of_ble_eq_true rfl⟩) (preG_V (ci := 12) (q := (RX12, TX12, 37)) (hP.sub [0, 1] rfl) (hD.sub [0, 1] rfl rfl) hK rfl rfl) rfl rfl hl.1 rfl (lv_room (Nat.le_of_ble_eq_true rfl)) dX12_lineNow_80 ⟨Nat.le_of_ble_eq_true rfl, Nat.le_of_ble_eq_true rfl⟩) hP hD hS hA [0, 1] rfl (fun H locs hP hD hS => ?_)
        clear hcall
        have hr9 := ck_c hf
        replace hf := ck_r hf
        have hq := jn_i hf
        clear hf
        obtain ⟨J11, eJ11, hf⟩ := hq
        have hJ11 : ∀  (ls : Array Slot) (H : Heap) (locs : List Loc), lv_has ls 1 [(0, .ref a_p0)] → va_P D vwCl [(a_p0, .inr (12, [.ref a_p0_st, .ref a_p0_isKept, .int (Int32.ofInt i_p0_seats), .int (Int32.ofInt i_p0_stirs), .ref a_p0_brings, .ref a_p0_need, .ref a_p0_draft, .int (Int32.ofInt i_p0_dSeats), .int (Int32.ofInt i_p0_dStirs), .ref a_p0_dStir, .ref a_p0_dNeed, .int (Int32.ofInt i_p0_told), .int (Int32.ofInt i_p0_highest), .ref a_p0_tape, .int (Int32.ofInt i_p0_taped), .int (Int32.ofInt i_p0_pos), .int (Int32.ofInt i_p0_from), .int (Int32.ofInt i_p0_sort), .int (Int32.ofInt i_p0_value), .int (Int32.ofInt i_p0_fault), .int (Int32.ofInt i_p0_wrongAt), .ref a_p0_places, .ref a_p0_stirred, .ref a_p0_ways, .ref a_p0_waysThen, .ref a_p0_stays, .ref a_p0_fewest, .ref a_p0_bowls, .ref a_p0_has, .ref a_p0_goesOn, .ref a_p0_isThere, .ref a_p0_isThereThen, .ref a_p0_bestRow, .ref a_p0_lanes, .ref a_p0_sizes, .ref a_p0_cells, .int (Int32.ofInt i_p0_torn)])), (a_p0_tape, .inl (G 1, 320, .inl (zA v_p0_tape)))] H → va_D A [(a_p0, .inr (12, [.ref a_p0_st, .ref a_p0_isKept, .int (Int32.ofInt i_p0_seats), .int (Int32.ofInt i_p0_stirs), .ref a_p0_brings, .ref a_p0_need, .ref a_p0_draft, .int (Int32.ofInt i_p0_dSeats), .int (Int32.ofInt i_p0_dStirs), .ref a_p0_dStir, .ref a_p0_dNeed, .int (Int32.ofInt i_p0_told), .int (Int32.ofInt i_p0_highest), .ref a_p0_tape, .int (Int32.ofInt i_p0_taped), .int (Int32.ofInt i_p0_pos), .int (Int32.ofInt i_p0_from), .int (Int32.ofInt i_p0_sort), .int (Int32.ofInt i_p0_value), .int (Int32.ofInt i_p0_fault), .int (Int32.ofInt i_p0_wrongAt), .ref a_p0_places, .ref a_p0_stirred, .ref a_p0_ways, .ref a_p0_waysThen, .ref a_p0_stays, .ref a_p0_fewest, .ref a_p0_bowls, .ref a_p0_has, .ref a_p0_goesOn, .ref a_p0_isThere, .ref a_p0_isThereThen, .ref a_p0_bestRow, .ref a_p0_lanes, .ref a_p0_sizes, .ref a_p0_cells, .int (Int32.ofInt i_p0_torn)])), (a_p0_tape, .inl (G 1, 320, .inl (zA v_p0_tape)))] → va_S A s.heap H locs → J11  = some r → W p l e rm_X12_lineNow s m ([.ref a_p0] : List Value).toArray below meth c H locs 0 0 Q (F0 m 100 ls []) := by
          clear hf hl hP hD hS
          intro  ls H locs hl hP hD hS hf
          replace hf := jn0_s eJ11 hf
          refine lv_aload_n hx hb dX12_lineNow_100 rfl (lv_at hl 0 rfl) ?_
          refine lv_bipush (v := Int32.ofInt (6 : Int)) hx hb dX12_lineNow_101 (by decide) ?_
          refine lv_bipush (v := Int32.ofInt (102 : Int)) hx hb dX12_lineNow_103 (by decide) ?_
          refine lv_bipush (v := Int32.ofInt (114 : Int)) hx hb dX12_lineNow_105 (by decide) ?_
          refine lv_bipush (v := Int32.ofInt (105 : Int)) hx hb dX12_lineNow_107 (by decide) ?_
          have hq := bd1_s hf
          clear hf
          obtain ⟨z12, hcall, hf⟩ := hq
          refine gnI (va_runV (As := [.int (Int32.ofInt (6 : Int)), .int (Int32.ofInt (102 : Int)), .int (Int32.ofInt (114 : Int)), .int (Int32.ofInt (105 : Int))]) (rest := []) ⟨hx, hb, hml, hown, hts⟩ (c_X12_is (l := l) (D := D) (G := G) (sz := H.size) (a_p0 := a_p0) (a_p0_st := a_p0_st) (a_p0_isKept := a_p0_isKept) (a_p0_brings := a_p0_brings) (a_p0_need := a_p0_need) (a_p0_draft := a_p0_draft) (a_p0_dStir := a_p0_dStir) (a_p0_dNeed := a_p0_dNeed) (a_p0_tape := a_p0_tape) (a_p0_places := a_p0_places) (a_p0_stirred := a_p0_stirred) (a_p0_ways := a_p0_ways) (a_p0_waysThen := a_p0_waysThen) (a_p0_stays := a_p0_stays) (a_p0_fewest := a_p0_fewest) (a_p0_bowls := a_p0_bowls) (a_p0_has := a_p0_has) (a_p0_goesOn := a_p0_goesOn) (a_p0_isThere := a_p0_isThere) (a_p0_isThereThen := a_p0_isThereThen) (a_p0_bestRow := a_p0_bestRow) (a_p0_lanes := a_p0_lanes) (a_p0_sizes := a_p0_sizes) (a_p0_cells := a_p0_cells) (i_p0_seats := i_p0_seats) (i_p0_stirs := i_p0_stirs) (i_p0_dSeats := i_p0_dSeats) (i_p0_dStirs := i_p0_dStirs) (i_p0_told := i_p0_told) (i_p0_highest := i_p0_highest) (i_p0_taped := i_p0_taped) (i_p0_pos := i_p0_pos) (i_p0_from := i_p0_from) (i_p0_sort := i_p0_sort) (i_p0_value := i_p0_value) (i_p0_fault := i_p0_fault) (i_p0_wrongAt := i_p0_wrongAt) (i_p0_torn := i_p0_torn) (v_p0_tape := v_p0_tape) (x1 := (6 : Int)) (x2 := (102 : Int)) (x3 := (114 : Int)) (x4 := (105 : Int)) (r := z12) (hf := hcall)) (cwV 4 hts gX12_lineNow_X12_is rfl rfl rfl hdV_yX12_is_RX12 ⟨Nat.le_of_ble_eq_true rfl, Nat.le_of_ble_eq_true rfl⟩) (preG_V (ci := 12) (q := (RX12, TX12, 37)) (hP.sub [0, 1] rfl) (hD.sub [0, 1] rfl rfl) hK rfl rfl) rfl rfl hl.1 rfl (lv_room (Nat.le_of_ble_eq_true rfl)) dX12_lineNow_109 ⟨Nat.le_of_ble_eq_true rfl, Nat.le_of_ble_eq_true rfl⟩) hP hD hS hA [0, 1] rfl (fun H locs hP hD hS => ?_)
          clear hcall
          have hr12 := ck_c hf
          replace hf := ck_r hf
          have hq := jn_i hf
          clear hf
          obtain ⟨J14, eJ14, hf⟩ := hq
          have hJ14 : ∀  (ls : Array Slot) (H : Heap) (locs : List Loc), lv_has ls 1 [(0, .ref a_p0)] → va_P D vwCl [(a_p0, .inr (12, [.ref a_p0_st, .ref a_p0_isKept, .int (Int32.ofInt i_p0_seats), .int (Int32.ofInt i_p0_stirs), .ref a_p0_brings, .ref a_p0_need, .ref a_p0_draft, .int (Int32.ofInt i_p0_dSeats), .int (Int32.ofInt i_p0_dStirs), .ref a_p0_dStir, .ref a_p0_dNeed, .int (Int32.ofInt i_p0_told), .int (Int32.ofInt i_p0_highest), .ref a_p0_tape, .int (Int32.ofInt i_p0_taped), .int (Int32.ofInt i_p0_pos), .int (Int32.ofInt i_p0_from), .int (Int32.ofInt i_p0_sort), .int (Int32.ofInt i_p0_value), .int (Int32.ofInt i_p0_fault), .int (Int32.ofInt i_p0_wrongAt), .ref a_p0_places, .ref a_p0_stirred, .ref a_p0_ways, .ref a_p0_waysThen, .ref a_p0_stays, .ref a_p0_fewest, .ref a_p0_bowls, .ref a_p0_has, .ref a_p0_goesOn, .ref a_p0_isThere, .ref a_p0_isThereThen, .ref a_p0_bestRow, .ref a_p0_lanes, .ref a_p0_sizes, .ref a_p0_cells, .int (Int32.ofInt i_p0_torn)])), (a_p0_tape, .inl (G 1, 320, .inl (zA v_p0_tape)))] H → va_D A [(a_p0, .inr (12, [.ref a_p0_st, .ref a_p0_isKept, .int (Int32.ofInt i_p0_seats), .int (Int32.ofInt i_p0_stirs), .ref a_p0_brings, .ref a_p0_need, .ref a_p0_draft, .int (Int32.ofInt i_p0_dSeats), .int (Int32.ofInt i_p0_dStirs), .ref a_p0_dStir, .ref a_p0_dNeed, .int (Int32.ofInt i_p0_told), .int (Int32.ofInt i_p0_highest), .ref a_p0_tape, .int (Int32.ofInt i_p0_taped), .int (Int32.ofInt i_p0_pos), .int (Int32.ofInt i_p0_from), .int (Int32.ofInt i_p0_sort), .int (Int32.ofInt i_p0_value), .int (Int32.ofInt i_p0_fault), .int (Int32.ofInt i_p0_wrongAt), .ref a_p0_places, .ref a_p0_stirred, .ref a_p0_ways, .ref a_p0_waysThen, .ref a_p0_stays, .ref a_p0_fewest, .ref a_p0_bowls, .ref a_p0_has, .ref a_p0_goesOn, .ref a_p0_isThere, .ref a_p0_isThereThen, .ref a_p0_bestRow, .ref a_p0_lanes, .ref a_p0_sizes, .ref a_p0_cells, .int (Int32.ofInt i_p0_torn)])), (a_p0_tape, .inl (G 1, 320, .inl (zA v_p0_tape)))] → va_S A s.heap H locs → J14  = some r → W p l e rm_X12_lineNow s m ([.ref a_p0] : List Value).toArray below meth c H locs 0 0 Q (F0 m 131 ls []) := by
            clear hf hl hP hD hS
            intro  ls H locs hl hP hD hS hf
            replace hf := jn0_s eJ14 hf
            refine lv_aload_n hx hb dX12_lineNow_131 rfl (lv_at hl 0 rfl) ?_
            refine lv_bipush (v := Int32.ofInt (6 : Int)) hx hb dX12_lineNow_132 (by decide) ?_
            refine lv_bipush (v := Int32.ofInt (115 : Int)) hx hb dX12_lineNow_134 (by decide) ?_
            refine lv_bipush (v := Int32.ofInt (112 : Int)) hx hb dX12_lineNow_136 (by decide) ?_
            refine lv_bipush (v := Int32.ofInt (111 : Int)) hx hb dX12_lineNow_138 (by decide) ?_
            have hq := bd1_s hf
            clear hf
            obtain ⟨z15, hcall, hf⟩ := hq
            refine gnI (va_runV (As := [.int (Int32.ofInt (6 : Int)), .int (Int32.ofInt (115 : Int)), .int (Int32.ofInt (112 : Int)), .int (Int32.ofInt (111 : Int))]) (rest := []) ⟨hx, hb, hml, hown, hts⟩ (c_X12_is (l := l) (D := D) (G := G) (sz := H.size) (a_p0 := a_p0) (a_p0_st := a_p0_st) (a_p0_isKept := a_p0_isKept) (a_p0_brings := a_p0_brings) (a_p0_need := a_p0_need) (a_p0_draft := a_p0_draft) (a_p0_dStir := a_p0_dStir) (a_p0_dNeed := a_p0_dNeed) (a_p0_tape := a_p0_tape) (a_p0_places := a_p0_places) (a_p0_stirred := a_p0_stirred) (a_p0_ways := a_p0_ways) (a_p0_waysThen := a_p0_waysThen) (a_p0_stays := a_p0_stays) (a_p0_fewest := a_p0_fewest) (a_p0_bowls := a_p0_bowls) (a_p0_has := a_p0_has) (a_p0_goesOn := a_p0_goesOn) (a_p0_isThere := a_p0_isThere) (a_p0_isThereThen := a_p0_isThereThen) (a_p0_bestRow := a_p0_bestRow) (a_p0_lanes := a_p0_lanes) (a_p0_sizes := a_p0_sizes) (a_p0_cells := a_p0_cells) (i_p0_seats := i_p0_seats) (i_p0_stirs := i_p0_stirs) (i_p0_dSeats := i_p0_dSeats) (i_p0_dStirs := i_p0_dStirs) (i_p0_told := i_p0_told) (i_p0_highest := i_p0_highest) (i_p0_taped := i_p0_taped) (i_p0_pos := i_p0_pos) (i_p0_from := i_p0_from) (i_p0_sort := i_p0_sort) (i_p0_value := i_p0_value) (i_p0_fault := i_p0_fault) (i_p0_wrongAt := i_p0_wrongAt) (i_p0_torn := i_p0_torn) (v_p0_tape := v_p0_tape) (x1 := (6 : Int)) (x2 := (115 : Int)) (x3 := (112 : Int)) (x4 := (111 : Int)) (r := z15) (hf := hcall)) (cwV 4 hts gX12_lineNow_X12_is rfl rfl rfl hdV_yX12_is_RX12 ⟨Nat.le_of_ble_eq_true rfl, Nat.le_of_ble_eq_true rfl⟩) (preG_V (ci := 12) (q := (RX12, TX12, 37)) (hP.sub [0, 1] rfl) (hD.sub [0, 1] rfl rfl) hK rfl rfl) rfl rfl hl.1 rfl (lv_room (Nat.le_of_ble_eq_true rfl)) dX12_lineNow_140 ⟨Nat.le_of_ble_eq_true rfl, Nat.le_of_ble_eq_true rfl⟩) hP hD hS hA [0, 1] rfl (fun H locs hP hD hS => ?_)
            clear hcall
            have hr15 := ck_c hf
            replace hf := ck_r hf
            have hq := jn_i hf
            clear hf
            obtain ⟨J17, eJ17, hf⟩ := hq
            have hJ17 : ∀  (ls : Array Slot) (H : Heap) (locs : List Loc), lv_has ls 1 [(0, .ref a_p0)] → va_P D vwCl [(a_p0, .inr (12, [.ref a_p0_st, .ref a_p0_isKept, .int (Int32.ofInt i_p0_seats), .int (Int32.ofInt i_p0_stirs), .ref a_p0_brings, .ref a_p0_need, .ref a_p0_draft, .int (Int32.ofInt i_p0_dSeats), .int (Int32.ofInt i_p0_dStirs), .ref a_p0_dStir, .ref a_p0_dNeed, .int (Int32.ofInt i_p0_told), .int (Int32.ofInt i_p0_highest), .ref a_p0_tape, .int (Int32.ofInt i_p0_taped), .int (Int32.ofInt i_p0_pos), .int (Int32.ofInt i_p0_from), .int (Int32.ofInt i_p0_sort), .int (Int32.ofInt i_p0_value), .int (Int32.ofInt i_p0_fault), .int (Int32.ofInt i_p0_wrongAt), .ref a_p0_places, .ref a_p0_stirred, .ref a_p0_ways, .ref a_p0_waysThen, .ref a_p0_stays, .ref a_p0_fewest, .ref a_p0_bowls, .ref a_p0_has, .ref a_p0_goesOn, .ref a_p0_isThere, .ref a_p0_isThereThen, .ref a_p0_bestRow, .ref a_p0_lanes, .ref a_p0_sizes, .ref a_p0_cells, .int (Int32.ofInt i_p0_torn)])), (a_p0_tape, .inl (G 1, 320, .inl (zA v_p0_tape)))] H → va_D A [(a_p0, .inr (12, [.ref a_p0_st, .ref a_p0_isKept, .int (Int32.ofInt i_p0_seats), .int (Int32.ofInt i_p0_stirs), .ref a_p0_brings, .ref a_p0_need, .ref a_p0_draft, .int (Int32.ofInt i_p0_dSeats), .int (Int32.ofInt i_p0_dStirs), .ref a_p0_dStir, .ref a_p0_dNeed, .int (Int32.ofInt i_p0_told), .int (Int32.ofInt i_p0_highest), .ref a_p0_tape, .int (Int32.ofInt i_p0_taped), .int (Int32.ofInt i_p0_pos), .int (Int32.ofInt i_p0_from), .int (Int32.ofInt i_p0_sort), .int (Int32.ofInt i_p0_value), .int (Int32.ofInt i_p0_fault), .int (Int32.ofInt i_p0_wrongAt), .ref a_p0_places, .ref a_p0_stirred, .ref a_p0_ways, .ref a_p0_waysThen, .ref a_p0_stays, .ref a_p0_fewest, .ref a_p0_bowls, .ref a_p0_has, .ref a_p0_goesOn, .ref a_p0_isThere, .ref a_p0_isThereThen, .ref a_p0_bestRow, .ref a_p0_lanes, .ref a_p0_sizes, .ref a_p0_cells, .int (Int32.ofInt i_p0_torn)])), (a_p0_tape, .inl (G 1, 320, .inl (zA v_p0_tape)))] → va_S A s.heap H locs → J17  = some r → W p l e rm_X12_lineNow s m ([.ref a_p0] : List Value).toArray below meth c H locs 0 0 Q (F0 m 162 ls []) := by
              clear hf hl hP hD hS
              intro  ls H locs hl hP hD hS hf
              replace hf := jn0_s eJ17 hf
              refine lv_aload_n hx hb dX12_lineNow_162 rfl (lv_at hl 0 rfl) ?_
              refine lv_iconst (v := Int32.ofInt (4 : Int)) hx hb dX12_lineNow_163 (by decide) ?_
              refine lv_bipush (v := Int32.ofInt (110 : Int)) hx hb dX12_lineNow_164 (by decide) ?_
              refine lv_bipush (v := Int32.ofInt (101 : Int)) hx hb dX12_lineNow_166 (by decide) ?_
              refine lv_bipush (v := Int32.ofInt (101 : Int)) hx hb dX12_lineNow_168 (by decide) ?_
              have hq := bd1_s hf
              clear hf
              obtain ⟨z18, hcall, hf⟩ := hq
              refine gnI (va_runV (As := [.int (Int32.ofInt (4 : Int)), .int (Int32.ofInt (110 : Int)), .int (Int32.ofInt (101 : Int)), .int (Int32.ofInt (101 : Int))]) (rest := []) ⟨hx, hb, hml, hown, hts⟩ (c_X12_is (l := l) (D := D) (G := G) (sz := H.size) (a_p0 := a_p0) (a_p0_st := a_p0_st) (a_p0_isKept := a_p0_isKept) (a_p0_brings := a_p0_brings) (a_p0_need := a_p0_need) (a_p0_draft := a_p0_draft) (a_p0_dStir := a_p0_dStir) (a_p0_dNeed := a_p0_dNeed) (a_p0_tape := a_p0_tape) (a_p0_places := a_p0_places) (a_p0_stirred := a_p0_stirred) (a_p0_ways := a_p0_ways) (a_p0_waysThen := a_p0_waysThen) (a_p0_stays := a_p0_stays) (a_p0_fewest := a_p0_fewest) (a_p0_bowls := a_p0_bowls) (a_p0_has := a_p0_has) (a_p0_goesOn := a_p0_goesOn) (a_p0_isThere := a_p0_isThere) (a_p0_isThereThen := a_p0_isThereThen) (a_p0_bestRow := a_p0_bestRow) (a_p0_lanes := a_p0_lanes) (a_p0_sizes := a_p0_sizes) (a_p0_cells := a_p0_cells) (i_p0_seats := i_p0_seats) (i_p0_stirs := i_p0_stirs) (i_p0_dSeats := i_p0_dSeats) (i_p0_dStirs := i_p0_dStirs) (i_p0_told := i_p0_told) (i_p0_highest := i_p0_highest) (i_p0_taped := i_p0_taped) (i_p0_pos := i_p0_pos) (i_p0_from := i_p0_from) (i_p0_sort := i_p0_sort) (i_p0_value := i_p0_value) (i_p0_fault := i_p0_fault) (i_p0_wrongAt := i_p0_wrongAt) (i_p0_torn := i_p0_torn) (v_p0_tape := v_p0_tape) (x1 := (4 : Int)) (x2 := (110 : Int)) (x3 := (101 : Int)) (x4 := (101 : Int)) (r := z18) (hf := hcall)) (cwV 4 hts gX12_lineNow_X12_is rfl rfl rfl hdV_yX12_is_RX12 ⟨Nat.le_of_ble_eq_true rfl, Nat.le_of_ble_eq_true rfl⟩) (preG_V (ci := 12) (q := (RX12, TX12, 37)) (hP.sub [0, 1] rfl) (hD.sub [0, 1] rfl rfl) hK rfl rfl) rfl rfl hl.1 rfl (lv_room (Nat.le_of_ble_eq_true rfl)) dX12_lineNow_170 ⟨Nat.le_of_ble_eq_true rfl, Nat.le_of_ble_eq_true rfl⟩) hP hD hS hA [0, 1] rfl (fun H locs hP hD hS => ?_)
              clear hcall
              have hr18 := ck_c hf
              replace hf := ck_r hf
              refine lv_if_eq (tgt := 192) hx hb dX12_lineNow_173 (by decide) (fun cc => ?_) (fun cc => ?_)
              ·
                replace hf := ite_t ((z_eq0 hr18).mp cc) hf
                clear cc
                refine lv_aload_n hx hb dX12_lineNow_192 rfl (lv_at hl 0 rfl) ?_
                have hq := bd1_s hf
                clear hf
                obtain ⟨z20, hcall, hf⟩ := hq
                refine gnI (va_runV (As := []) (rest := []) ⟨hx, hb, hml, hown, hts⟩ (c_X12_stirNow (l := l) (D := D) (G := G) (sz := H.size) (a_p0 := a_p0) (a_p0_st := a_p0_st) (a_p0_isKept := a_p0_isKept) (a_p0_brings := a_p0_brings) (a_p0_need := a_p0_need) (a_p0_draft := a_p0_draft) (a_p0_dStir := a_p0_dStir) (a_p0_dNeed := a_p0_dNeed) (a_p0_tape := a_p0_tape) (a_p0_places := a_p0_places) (a_p0_stirred := a_p0_stirred) (a_p0_ways := a_p0_ways) (a_p0_waysThen := a_p0_waysThen) (a_p0_stays := a_p0_stays) (a_p0_fewest := a_p0_fewest) (a_p0_bowls := a_p0_bowls) (a_p0_has := a_p0_has) (a_p0_goesOn := a_p0_goesOn) (a_p0_isThere := a_p0_isThere) (a_p0_isThereThen := a_p0_isThereThen) (a_p0_bestRow := a_p0_bestRow) (a_p0_lanes := a_p0_lanes) (a_p0_sizes := a_p0_sizes) (a_p0_cells := a_p0_cells) (i_p0_seats := i_p0_seats) (i_p0_stirs := i_p0_stirs) (i_p0_dSeats := i_p0_dSeats) (i_p0_dStirs := i_p0_dStirs) (i_p0_told := i_p0_told) (i_p0_highest := i_p0_highest) (i_p0_taped := i_p0_taped) (i_p0_pos := i_p0_pos) (i_p0_from := i_p0_from) (i_p0_sort := i_p0_sort) (i_p0_value := i_p0_value) (i_p0_fault := i_p0_fault) (i_p0_wrongAt := i_p0_wrongAt) (i_p0_torn := i_p0_torn) (v_p0_tape := v_p0_tape) (r := z20) (hf := hcall)) (cwV 0 hts gX12_lineNow_X12_stirNow rfl rfl rfl hdV_yX12_stirNow_RX12 ⟨Nat.le_of_ble_eq_true rfl, Nat.le_of_ble_eq_true rfl⟩) (preG_V (ci := 12) (q := (RX12, TX12, 37)) (hP.sub [0, 1] rfl) (hD.sub [0, 1] rfl rfl) hK rfl rfl) rfl rfl hl.1 rfl (lv_room (Nat.le_of_ble_eq_true rfl)) dX12_lineNow_193 ⟨Nat.le_of_ble_eq_true rfl, Nat.le_of_ble_eq_true rfl⟩) hP hD hS hA [0, 1] rfl (fun H locs hP hD hS => ?_)
                clear hcall
                obtain rfl := ou1 hf
                rw [hQ]
                exact W.iret hx hb hr (fun t ht hW => ⟨⟨_, (), rfl, rfl, by rw [ht]; exact hP, va_K.moved hW.alike hK, hD⟩, hS.F ht⟩) hS.2.2 dX12_lineNow_196
              ·
                replace hf := ite_f (fun h9 => cc ((z_eq0 hr18).mpr h9)) hf
                clear cc
                refine lv_aload_n hx hb dX12_lineNow_176 rfl (lv_at hl 0 rfl) ?_
                refine lv_bipush (v := Int32.ofInt (100 : Int)) hx hb dX12_lineNow_177 (by decide) ?_
                refine lv_iconst (v := Int32.ofInt (0 : Int)) hx hb dX12_lineNow_179 (by decide) ?_
                refine lv_iconst (v := Int32.ofInt (0 : Int)) hx hb dX12_lineNow_180 (by decide) ?_
                have hq := bd1_s hf
                clear hf
                obtain ⟨z21, hcall, hf⟩ := hq
                refine gnI (va_runV (As := [.int (Int32.ofInt (100 : Int)), .int (Int32.ofInt (0 : Int)), .int (Int32.ofInt (0 : Int))]) (rest := []) ⟨hx, hb, hml, hown, hts⟩ (c_X12_ends (l := l) (D := D) (G := G) (sz := H.size) (a_p0 := a_p0) (a_p0_st := a_p0_st) (a_p0_isKept := a_p0_isKept) (a_p0_brings := a_p0_brings) (a_p0_need := a_p0_need) (a_p0_draft := a_p0_draft) (a_p0_dStir := a_p0_dStir) (a_p0_dNeed := a_p0_dNeed) (a_p0_tape := a_p0_tape) (a_p0_places := a_p0_places) (a_p0_stirred := a_p0_stirred) (a_p0_ways := a_p0_ways) (a_p0_waysThen := a_p0_waysThen) (a_p0_stays := a_p0_stays) (a_p0_fewest := a_p0_fewest) (a_p0_bowls := a_p0_bowls) (a_p0_has := a_p0_has) (a_p0_goesOn := a_p0_goesOn) (a_p0_isThere := a_p0_isThere) (a_p0_isThereThen := a_p0_isThereThen) (a_p0_bestRow := a_p0_bestRow) (a_p0_lanes := a_p0_lanes) (a_p0_sizes := a_p0_sizes) (a_p0_cells := a_p0_cells) (i_p0_seats := i_p0_seats) (i_p0_stirs := i_p0_stirs) (i_p0_dSeats := i_p0_dSeats) (i_p0_dStirs := i_p0_dStirs) (i_p0_told := i_p0_told) (i_p0_highest := i_p0_highest) (i_p0_taped := i_p0_taped) (i_p0_pos := i_p0_pos) (i_p0_from := i_p0_from) (i_p0_sort := i_p0_sort) (i_p0_value := i_p0_value) (i_p0_fault := i_p0_fault) (i_p0_wrongAt := i_p0_wrongAt) (i_p0_torn := i_p0_torn) (v_p0_tape := v_p0_tape) (x1 := (100 : Int)) (x2 := (0 : Int)) (x3 := (0 : Int)) (r := z21) (hf := hcall)) (cwV 3 hts gX12_lineNow_X12_ends rfl rfl rfl hdV_yX12_ends_RX12 ⟨Nat.le_of_ble_eq_true rfl, Nat.le_of_ble_eq_true rfl⟩) (preG_V (ci := 12) (q := (RX12, TX12, 37)) (hP.sub [0, 1] rfl) (hD.sub [0, 1] rfl rfl) hK rfl rfl) rfl rfl hl.1 rfl (lv_room (Nat.le_of_ble_eq_true rfl)) dX12_lineNow_181 ⟨Nat.le_of_ble_eq_true rfl, Nat.le_of_ble_eq_true rfl⟩) hP hD hS hA [0, 1] rfl (fun H locs hP hD hS => ?_)
                clear hcall
                have hr21 := ck_c hf
                replace hf := ck_r hf
                refine lv_if_eq (tgt := 192) hx hb dX12_lineNow_184 (by decide) (fun cc => ?_) (fun cc => ?_)
                ·
                  replace hf := ite_t ((z_eq0 hr21).mp cc) hf
                  clear cc
                  refine lv_aload_n hx hb dX12_lineNow_192 rfl (lv_at hl 0 rfl) ?_
                  have hq := bd1_s hf
                  clear hf
                  obtain ⟨z23, hcall, hf⟩ := hq
                  refine gnI (va_runV (As := []) (rest := []) ⟨hx, hb, hml, hown, hts⟩ (c_X12_stirNow (l := l) (D := D) (G := G) (sz := H.size) (a_p0 := a_p0) (a_p0_st := a_p0_st) (a_p0_isKept := a_p0_isKept) (a_p0_brings := a_p0_brings) (a_p0_need := a_p0_need) (a_p0_draft := a_p0_draft) (a_p0_dStir := a_p0_dStir) (a_p0_dNeed := a_p0_dNeed) (a_p0_tape := a_p0_tape) (a_p0_places := a_p0_places) (a_p0_stirred := a_p0_stirred) (a_p0_ways := a_p0_ways) (a_p0_waysThen := a_p0_waysThen) (a_p0_stays := a_p0_stays) (a_p0_fewest := a_p0_fewest) (a_p0_bowls := a_p0_bowls) (a_p0_has := a_p0_has) (a_p0_goesOn := a_p0_goesOn) (a_p0_isThere := a_p0_isThere) (a_p0_isThereThen := a_p0_isThereThen) (a_p0_bestRow := a_p0_bestRow) (a_p0_lanes := a_p0_lanes) (a_p0_sizes := a_p0_sizes) (a_p0_cells := a_p0_cells) (i_p0_seats := i_p0_seats) (i_p0_stirs := i_p0_stirs) (i_p0_dSeats := i_p0_dSeats) (i_p0_dStirs := i_p0_dStirs) (i_p0_told := i_p0_told) (i_p0_highest := i_p0_highest) (i_p0_taped := i_p0_taped) (i_p0_pos := i_p0_pos) (i_p0_from := i_p0_from) (i_p0_sort := i_p0_sort) (i_p0_value := i_p0_value) (i_p0_fault := i_p0_fault) (i_p0_wrongAt := i_p0_wrongAt) (i_p0_torn := i_p0_torn) (v_p0_tape := v_p0_tape) (r := z23) (hf := hcall)) (cwV 0 hts gX12_lineNow_X12_stirNow rfl rfl rfl hdV_yX12_stirNow_RX12 ⟨Nat.le_of_ble_eq_true rfl, Nat.le_of_ble_eq_true rfl⟩) (preG_V (ci := 12) (q := (RX12, TX12, 37)) (hP.sub [0, 1] rfl) (hD.sub [0, 1] rfl rfl) hK rfl rfl) rfl rfl hl.1 rfl (lv_room (Nat.le_of_ble_eq_true rfl)) dX12_lineNow_193 ⟨Nat.le_of_ble_eq_true rfl, Nat.le_of_ble_eq_true rfl⟩) hP hD hS hA [0, 1] rfl (fun H locs hP hD hS => ?_)
                  clear hcall
                  obtain rfl := ou1 hf
                  rw [hQ]
                  exact W.iret hx hb hr (fun t ht hW => ⟨⟨_, (), rfl, rfl, by rw [ht]; exact hP, va_K.moved hW.alike hK, hD⟩, hS.F ht⟩) hS.2.2 dX12_lineNow_196
                ·
                  replace hf := ite_f (fun h9 => cc ((z_eq0 hr21).mpr h9)) hf
                  clear cc
                  refine lv_bipush (v := Int32.ofInt (10 : Int)) hx hb dX12_lineNow_187 (by decide) ?_
                  refine lv_goto (tgt := 196) hx hb dX12_lineNow_189 (by decide) ?_
                  obtain rfl := ou1 hf
                  rw [hQ]
                  exact W.iret hx hb hr (fun t ht hW => ⟨⟨_, (), rfl, rfl, by rw [ht]; exact hP, va_K.moved hW.alike hK, hD⟩, hS.F ht⟩) hS.2.2 dX12_lineNow_196
            refine lv_if_eq (tgt := 162) hx hb dX12_lineNow_143 (by decide) (fun cc => ?_) (fun cc => ?_)
            ·
              replace hf := ite_t ((z_eq0 hr15).mp cc) hf
              clear cc
              exact hJ17  _ _ _ (lv_sub hl [0] rfl) hP hD hS hf
            ·
              replace hf := ite_f (fun h9 => cc ((z_eq0 hr15).mpr h9)) hf
              clear cc
              refine lv_aload_n hx hb dX12_lineNow_146 rfl (lv_at hl 0 rfl) ?_
              refine lv_bipush (v := Int32.ofInt (111 : Int)) hx hb dX12_lineNow_147 (by decide) ?_
              refine lv_bipush (v := Int32.ofInt (110 : Int)) hx hb dX12_lineNow_149 (by decide) ?_
              refine lv_bipush (v := Int32.ofInt (115 : Int)) hx hb dX12_lineNow_151 (by decide) ?_
              have hq := bd1_s hf
              clear hf
              obtain ⟨z24, hcall, hf⟩ := hq
              refine gnI (va_runV (As := [.int (Int32.ofInt (111 : Int)), .int (Int32.ofInt (110 : Int)), .int (Int32.ofInt (115 : Int))]) (rest := []) ⟨hx, hb, hml, hown, hts⟩ (c_X12_ends (l := l) (D := D) (G := G) (sz := H.size) (a_p0 := a_p0) (a_p0_st := a_p0_st) (a_p0_isKept := a_p0_isKept) (a_p0_brings := a_p0_brings) (a_p0_need := a_p0_need) (a_p0_draft := a_p0_draft) (a_p0_dStir := a_p0_dStir) (a_p0_dNeed := a_p0_dNeed) (a_p0_tape := a_p0_tape) (a_p0_places := a_p0_places) (a_p0_stirred := a_p0_stirred) (a_p0_ways := a_p0_ways) (a_p0_waysThen := a_p0_waysThen) (a_p0_stays := a_p0_stays) (a_p0_fewest := a_p0_fewest) (a_p0_bowls := a_p0_bowls) (a_p0_has := a_p0_has) (a_p0_goesOn := a_p0_goesOn) (a_p0_isThere := a_p0_isThere) (a_p0_isThereThen := a_p0_isThereThen) (a_p0_bestRow := a_p0_bestRow) (a_p0_lanes := a_p0_lanes) (a_p0_sizes := a_p0_sizes) (a_p0_cells := a_p0_cells) (i_p0_seats := i_p0_seats) (i_p0_stirs := i_p0_stirs) (i_p0_dSeats := i_p0_dSeats) (i_p0_dStirs := i_p0_dStirs) (i_p0_told := i_p0_told) (i_p0_highest := i_p0_highest) (i_p0_taped := i_p0_taped) (i_p0_pos := i_p0_pos) (i_p0_from := i_p0_from) (i_p0_sort := i_p0_sort) (i_p0_value := i_p0_value) (i_p0_fault := i_p0_fault) (i_p0_wrongAt := i_p0_wrongAt) (i_p0_torn := i_p0_torn) (v_p0_tape := v_p0_tape) (x1 := (111 : Int)) (x2 := (110 : Int)) (x3 := (115 : Int)) (r := z24) (hf := hcall)) (cwV 3 hts gX12_lineNow_X12_ends rfl rfl rfl hdV_yX12_ends_RX12 ⟨Nat.le_of_ble_eq_true rfl, Nat.le_of_ble_eq_true rfl⟩) (preG_V (ci := 12) (q := (RX12, TX12, 37)) (hP.sub [0, 1] rfl) (hD.sub [0, 1] rfl rfl) hK rfl rfl) rfl rfl hl.1 rfl (lv_room (Nat.le_of_ble_eq_true rfl)) dX12_lineNow_153 ⟨Nat.le_of_ble_eq_true rfl, Nat.le_of_ble_eq_true rfl⟩) hP hD hS hA [0, 1] rfl (fun H locs hP hD hS => ?_)
              clear hcall
              have hr24 := ck_c hf
              replace hf := ck_r hf
              refine lv_if_eq (tgt := 162) hx hb dX12_lineNow_156 (by decide) (fun cc => ?_) (fun cc => ?_)
              ·
                replace hf := ite_t ((z_eq0 hr24).mp cc) hf
                clear cc
                exact hJ17  _ _ _ (lv_sub hl [0] rfl) hP hD hS hf
              ·
                replace hf := ite_f (fun h9 => cc ((z_eq0 hr24).mpr h9)) hf
                clear cc
                refine lv_bipush (v := Int32.ofInt (9 : Int)) hx hb dX12_lineNow_159 (by decide) ?_
                obtain rfl := ou1 hf
                rw [hQ]
                exact W.iret hx hb hr (fun t ht hW => ⟨⟨_, (), rfl, rfl, by rw [ht]; exact hP, va_K.moved hW.alike hK, hD⟩, hS.F ht⟩) hS.2.2 dX12_lineNow_161
          refine lv_if_eq (tgt := 131) hx hb dX12_lineNow_112 (by decide) (fun cc => ?_) (fun cc => ?_)
          ·
            replace hf := ite_t ((z_eq0 hr12).mp cc) hf
            clear cc
            exact hJ14  _ _ _ (lv_sub hl [0] rfl) hP hD hS hf
          ·
            replace hf := ite_f (fun h9 => cc ((z_eq0 hr12).mpr h9)) hf
            clear cc
            refine lv_aload_n hx hb dX12_lineNow_115 rfl (lv_at hl 0 rfl) ?_
            refine lv_bipush (v := Int32.ofInt (101 : Int)) hx hb dX12_lineNow_116 (by decide) ?_
            refine lv_bipush (v := Int32.ofInt (110 : Int)) hx hb dX12_lineNow_118 (by decide) ?_
            refine lv_bipush (v := Int32.ofInt (100 : Int)) hx hb dX12_lineNow_120 (by decide) ?_
            have hq := bd1_s hf
            clear hf
            obtain ⟨z26, hcall, hf⟩ := hq
            refine gnI (va_runV (As := [.int (Int32.ofInt (101 : Int)), .int (Int32.ofInt (110 : Int)), .int (Int32.ofInt (100 : Int))]) (rest := []) ⟨hx, hb, hml, hown, hts⟩ (c_X12_ends (l := l) (D := D) (G := G) (sz := H.size) (a_p0 := a_p0) (a_p0_st := a_p0_st) (a_p0_isKept := a_p0_isKept) (a_p0_brings := a_p0_brings) (a_p0_need := a_p0_need) (a_p0_draft := a_p0_draft) (a_p0_dStir := a_p0_dStir) (a_p0_dNeed := a_p0_dNeed) (a_p0_tape := a_p0_tape) (a_p0_places := a_p0_places) (a_p0_stirred := a_p0_stirred) (a_p0_ways := a_p0_ways) (a_p0_waysThen := a_p0_waysThen) (a_p0_stays := a_p0_stays) (a_p0_fewest := a_p0_fewest) (a_p0_bowls := a_p0_bowls) (a_p0_has := a_p0_has) (a_p0_goesOn := a_p0_goesOn) (a_p0_isThere := a_p0_isThere) (a_p0_isThereThen := a_p0_isThereThen) (a_p0_bestRow := a_p0_bestRow) (a_p0_lanes := a_p0_lanes) (a_p0_sizes := a_p0_sizes) (a_p0_cells := a_p0_cells) (i_p0_seats := i_p0_seats) (i_p0_stirs := i_p0_stirs) (i_p0_dSeats := i_p0_dSeats) (i_p0_dStirs := i_p0_dStirs) (i_p0_told := i_p0_told) (i_p0_highest := i_p0_highest) (i_p0_taped := i_p0_taped) (i_p0_pos := i_p0_pos) (i_p0_from := i_p0_from) (i_p0_sort := i_p0_sort) (i_p0_value := i_p0_value) (i_p0_fault := i_p0_fault) (i_p0_wrongAt := i_p0_wrongAt) (i_p0_torn := i_p0_torn) (v_p0_tape := v_p0_tape) (x1 := (101 : Int)) (x2 := (110 : Int)) (x3 := (100 : Int)) (r := z26) (hf := hcall)) (cwV 3 hts gX12_lineNow_X12_ends rfl rfl rfl hdV_yX12_ends_RX12 ⟨Nat.le_of_ble_eq_true rfl, Nat.le_of_ble_eq_true rfl⟩) (preG_V (ci := 12) (q := (RX12, TX12, 37)) (hP.sub [0, 1] rfl) (hD.sub [0, 1] rfl rfl) hK rfl rfl) rfl rfl hl.1 rfl (lv_room (Nat.le_of_ble_eq_true rfl)) dX12_lineNow_122 ⟨Nat.le_of_ble_eq_true rfl, Nat.le_of_ble_eq_true rfl⟩) hP hD hS hA [0, 1] rfl (fun H locs hP hD hS => ?_)
            clear hcall
            have hr26 := ck_c hf
            replace hf := ck_r hf
            refine lv_if_eq (tgt := 131) hx hb dX12_lineNow_125 (by decide) (fun cc => ?_) (fun cc => ?_)
            ·
              replace hf := ite_t ((z_eq0 hr26).mp cc) hf
              clear cc
              exact hJ14  _ _ _ (lv_sub hl [0] rfl) hP hD hS hf
            ·
              replace hf := ite_f (fun h9 => cc ((z_eq0 hr26).mpr h9)) hf
              clear cc
              refine lv_bipush (v := Int32.ofInt (8 : Int)) hx hb dX12_lineNow_128 (by decide) ?_
              obtain rfl := ou1 hf
              rw [hQ]
              exact W.iret hx hb hr (fun t ht hW => ⟨⟨_, (), rfl, rfl, by rw [ht]; exact hP, va_K.moved hW.alike hK, hD⟩, hS.F ht⟩) hS.2.2 dX12_lineNow_130
        refine lv_if_eq (tgt := 100) hx hb dX12_lineNow_83 (by decide) (fun cc => ?_) (fun cc => ?_)
        ·
          replace hf := ite_t ((z_eq0 hr9).mp cc) hf
          clear cc
          exact hJ11  _ _ _ (lv_sub hl [0] rfl) hP hD hS hf
        ·
          replace hf := ite_f (fun h9 => cc ((z_eq0 hr9).mpr h9)) hf
          clear cc
          refine lv_aload_n hx hb dX12_lineNow_86 rfl (lv_at hl 0 rfl) ?_
          refine lv_bipush (v := Int32.ofInt (103 : Int)) hx hb dX12_lineNow_87 (by decide) ?_
          refine lv_iconst (v := Int32.ofInt (0 : Int)) hx hb dX12_lineNow_89 (by decide) ?_
          refine lv_iconst (v := Int32.ofInt (0 : Int)) hx hb dX12_lineNow_90 (by decide) ?_
          have hq := bd1_s hf
          clear hf
          obtain ⟨z28, hcall, hf⟩ := hq
          refine gnI (va_runV (As := [.int (Int32.ofInt (103 : Int)), .int (Int32.ofInt (0 : Int)), .int (Int32.ofInt (0 : Int))]) (rest := []) ⟨hx, hb, hml, hown, hts⟩ (c_X12_ends (l := l) (D := D) (G := G) (sz := H.size) (a_p0 := a_p0) (a_p0_st := a_p0_st) (a_p0_isKept := a_p0_isKept) (a_p0_brings := a_p0_brings) (a_p0_need := a_p0_need) (a_p0_draft := a_p0_draft) (a_p0_dStir := a_p0_dStir) (a_p0_dNeed := a_p0_dNeed) (a_p0_tape := a_p0_tape) (a_p0_places := a_p0_places) (a_p0_stirred := a_p0_stirred) (a_p0_ways := a_p0_ways) (a_p0_waysThen := a_p0_waysThen) (a_p0_stays := a_p0_stays) (a_p0_fewest := a_p0_fewest) (a_p0_bowls := a_p0_bowls) (a_p0_has := a_p0_has) (a_p0_goesOn := a_p0_goesOn) (a_p0_isThere := a_p0_isThere) (a_p0_isThereThen := a_p0_isThereThen) (a_p0_bestRow := a_p0_bestRow) (a_p0_lanes := a_p0_lanes) (a_p0_sizes := a_p0_sizes) (a_p0_cells := a_p0_cells) (i_p0_seats := i_p0_seats) (i_p0_stirs := i_p0_stirs) (i_p0_dSeats := i_p0_dSeats) (i_p0_dStirs := i_p0_dStirs) (i_p0_told := i_p0_told) (i_p0_highest := i_p0_highest) (i_p0_taped := i_p0_taped) (i_p0_pos := i_p0_pos) (i_p0_from := i_p0_from) (i_p0_sort := i_p0_sort) (i_p0_value := i_p0_value) (i_p0_fault := i_p0_fault) (i_p0_wrongAt := i_p0_wrongAt) (i_p0_torn := i_p0_torn) (v_p0_tape := v_p0_tape) (x1 := (103 : Int)) (x2 := (0 : Int)) (x3 := (0 : Int)) (r := z28) (hf := hcall)) (cwV 3 hts gX12_lineNow_X12_ends rfl rfl rfl hdV_yX12_ends_RX12 ⟨Nat.le_of_ble_eq_true rfl, Nat.le_of_ble_eq_true rfl⟩) (preG_V (ci := 12) (q := (RX12, TX12, 37)) (hP.sub [0, 1] rfl) (hD.sub [0, 1] rfl rfl) hK rfl rfl) rfl rfl hl.1 rfl (lv_room (Nat.le_of_ble_eq_true rfl)) dX12_lineNow_91 ⟨Nat.le_of_ble_eq_true rfl, Nat.le_of_ble_eq_true rfl⟩) hP hD hS hA [0, 1] rfl (fun H locs hP hD hS => ?_)
          clear hcall
          have hr28 := ck_c hf
          replace hf := ck_r hf
          refine lv_if_eq (tgt := 100) hx hb dX12_lineNow_94 (by decide) (fun cc => ?_) (fun cc => ?_)
          ·
            replace hf := ite_t ((z_eq0 hr28).mp cc) hf
            clear cc
            exact hJ11  _ _ _ (lv_sub hl [0] rfl) hP hD hS hf
          ·
            replace hf := ite_f (fun h9 => cc ((z_eq0 hr28).mpr h9)) hf
            clear cc
            refine lv_bipush (v := Int32.ofInt (7 : Int)) hx hb dX12_lineNow_97 (by decide) ?_
            obtain rfl := ou1 hf
            rw [hQ]
            exact W.iret hx hb hr (fun t ht hW => ⟨⟨_, (), rfl, rfl, by rw [ht]; exact hP, va_K.moved hW.alike hK, hD⟩, hS.F ht⟩) hS.2.2 dX12_lineNow_99
      refine lv_if_eq (tgt := 72) hx hb dX12_lineNow_55 (by decide) (fun cc => ?_) (fun cc => ?_)
      ·
        replace hf := ite_t ((z_eq0 hr6).mp cc) hf
        clear cc
        exact hJ8  _ _ _ (lv_sub hl [0] rfl) hP hD hS hf
      ·
        replace hf := ite_f (fun h9 => cc ((z_eq0 hr6).mpr h9)) hf
        clear cc
        refine lv_aload_n hx hb dX12_lineNow_58 rfl (lv_at hl 0 rfl) ?_
        refine lv_bipush (v := Int32.ofInt (101 : Int)) hx hb dX12_lineNow_59 (by decide) ?_
        refine lv_iconst (v := Int32.ofInt (0 : Int)) hx hb dX12_lineNow_61 (by decide) ?_
        refine lv_iconst (v := Int32.ofInt (0 : Int)) hx hb dX12_lineNow_62 (by decide) ?_
        have hq := bd1_s hf
        clear hf
        obtain ⟨z30, hcall, hf⟩ := hq
        refine gnI (va_runV (As := [.int (Int32.ofInt (101 : Int)), .int (Int32.ofInt (0 : Int)), .int (Int32.ofInt (0 : Int))]) (rest := []) ⟨hx, hb, hml, hown, hts⟩ (c_X12_ends (l := l) (D := D) (G := G) (sz := H.size) (a_p0 := a_p0) (a_p0_st := a_p0_st) (a_p0_isKept := a_p0_isKept) (a_p0_brings := a_p0_brings) (a_p0_need := a_p0_need) (a_p0_draft := a_p0_draft) (a_p0_dStir := a_p0_dStir) (a_p0_dNeed := a_p0_dNeed) (a_p0_tape := a_p0_tape) (a_p0_places := a_p0_places) (a_p0_stirred := a_p0_stirred) (a_p0_ways := a_p0_ways) (a_p0_waysThen := a_p0_waysThen) (a_p0_stays := a_p0_stays) (a_p0_fewest := a_p0_fewest) (a_p0_bowls := a_p0_bowls) (a_p0_has := a_p0_has) (a_p0_goesOn := a_p0_goesOn) (a_p0_isThere := a_p0_isThere) (a_p0_isThereThen := a_p0_isThereThen) (a_p0_bestRow := a_p0_bestRow) (a_p0_lanes := a_p0_lanes) (a_p0_sizes := a_p0_sizes) (a_p0_cells := a_p0_cells) (i_p0_seats := i_p0_seats) (i_p0_stirs := i_p0_stirs) (i_p0_dSeats := i_p0_dSeats) (i_p0_dStirs := i_p0_dStirs) (i_p0_told := i_p0_told) (i_p0_highest := i_p0_highest) (i_p0_taped := i_p0_taped) (i_p0_pos := i_p0_pos) (i_p0_from := i_p0_from) (i_p0_sort := i_p0_sort) (i_p0_value := i_p0_value) (i_p0_fault := i_p0_fault) (i_p0_wrongAt := i_p0_wrongAt) (i_p0_torn := i_p0_torn) (v_p0_tape := v_p0_tape) (x1 := (101 : Int)) (x2 := (0 : Int)) (x3 := (0 : Int)) (r := z30) (hf := hcall)) (cwV 3 hts gX12_lineNow_X12_ends rfl rfl rfl hdV_yX12_ends_RX12 ⟨Nat.le_of_ble_eq_true rfl, Nat.le_of_ble_eq_true rfl⟩) (preG_V (ci := 12) (q := (RX12, TX12, 37)) (hP.sub [0, 1] rfl) (hD.sub [0, 1] rfl rfl) hK rfl rfl) rfl rfl hl.1 rfl (lv_room (Nat.le_of_ble_eq_true rfl)) dX12_lineNow_63 ⟨Nat.le_of_ble_eq_true rfl, Nat.le_of_ble_eq_true rfl⟩) hP hD hS hA [0, 1] rfl (fun H locs hP hD hS => ?_)
        clear hcall
        have hr30 := ck_c hf
        replace hf := ck_r hf
        refine lv_if_eq (tgt := 72) hx hb dX12_lineNow_66 (by decide) (fun cc => ?_) (fun cc => ?_)
        ·
          replace hf := ite_t ((z_eq0 hr30).mp cc) hf
          clear cc
          exact hJ8  _ _ _ (lv_sub hl [0] rfl) hP hD hS hf
        ·
          replace hf := ite_f (fun h9 => cc ((z_eq0 hr30).mpr h9)) hf
          clear cc
          refine lv_bipush (v := Int32.ofInt (6 : Int)) hx hb dX12_lineNow_69 (by decide) ?_
          obtain rfl := ou1 hf
          rw [hQ]
          exact W.iret hx hb hr (fun t ht hW => ⟨⟨_, (), rfl, rfl, by rw [ht]; exact hP, va_K.moved hW.alike hK, hD⟩, hS.F ht⟩) hS.2.2 dX12_lineNow_71
    ·
      replace hf := ite_f (fun h9 => cc ((z_eq0 hr4).mpr h9)) hf
      clear cc
      refine lv_iconst (v := Int32.ofInt (5 : Int)) hx hb dX12_lineNow_42 (by decide) ?_
      obtain rfl := ou1 hf
      rw [hQ]
      exact W.iret hx hb hr (fun t ht hW => ⟨⟨_, (), rfl, rfl, by rw [ht]; exact hP, va_K.moved hW.alike hK, hD⟩, hS.F ht⟩) hS.2.2 dX12_lineNow_43
  refine lv_if_eq (tgt := 28) hx hb dX12_lineNow_11 (by decide) (fun cc => ?_) (fun cc => ?_)
  ·
    replace hf := ite_t ((z_eq0 hr1).mp cc) hf
    clear cc
    exact hJ3  _ _ _ (lv_sub hl [0] rfl) hP hD hS hf
  ·
    replace hf := ite_f (fun h9 => cc ((z_eq0 hr1).mpr h9)) hf
    clear cc
    refine lv_aload_n hx hb dX12_lineNow_14 rfl (lv_at hl 0 rfl) ?_
    refine lv_bipush (v := Int32.ofInt (116 : Int)) hx hb dX12_lineNow_15 (by decide) ?_
    refine lv_bipush (v := Int32.ofInt (115 : Int)) hx hb dX12_lineNow_17 (by decide) ?_
    refine lv_iconst (v := Int32.ofInt (0 : Int)) hx hb dX12_lineNow_19 (by decide) ?_
    have hq := bd1_s hf
    clear hf
    obtain ⟨z32, hcall, hf⟩ := hq
    refine gnI (va_runV (As := [.int (Int32.ofInt (116 : Int)), .int (Int32.ofInt (115 : Int)), .int (Int32.ofInt (0 : Int))]) (rest := []) ⟨hx, hb, hml, hown, hts⟩ (c_X12_ends (l := l) (D := D) (G := G) (sz := H.size) (a_p0 := a_p0) (a_p0_st := a_p0_st) (a_p0_isKept := a_p0_isKept) (a_p0_brings := a_p0_brings) (a_p0_need := a_p0_need) (a_p0_draft := a_p0_draft) (a_p0_dStir := a_p0_dStir) (a_p0_dNeed := a_p0_dNeed) (a_p0_tape := a_p0_tape) (a_p0_places := a_p0_places) (a_p0_stirred := a_p0_stirred) (a_p0_ways := a_p0_ways) (a_p0_waysThen := a_p0_waysThen) (a_p0_stays := a_p0_stays) (a_p0_fewest := a_p0_fewest) (a_p0_bowls := a_p0_bowls) (a_p0_has := a_p0_has) (a_p0_goesOn := a_p0_goesOn) (a_p0_isThere := a_p0_isThere) (a_p0_isThereThen := a_p0_isThereThen) (a_p0_bestRow := a_p0_bestRow) (a_p0_lanes := a_p0_lanes) (a_p0_sizes := a_p0_sizes) (a_p0_cells := a_p0_cells) (i_p0_seats := i_p0_seats) (i_p0_stirs := i_p0_stirs) (i_p0_dSeats := i_p0_dSeats) (i_p0_dStirs := i_p0_dStirs) (i_p0_told := i_p0_told) (i_p0_highest := i_p0_highest) (i_p0_taped := i_p0_taped) (i_p0_pos := i_p0_pos) (i_p0_from := i_p0_from) (i_p0_sort := i_p0_sort) (i_p0_value := i_p0_value) (i_p0_fault := i_p0_fault) (i_p0_wrongAt := i_p0_wrongAt) (i_p0_torn := i_p0_torn) (v_p0_tape := v_p0_tape) (x1 := (116 : Int)) (x2 := (115 : Int)) (x3 := (0 : Int)) (r := z32) (hf := hcall)) (cwV 3 hts gX12_lineNow_X12_ends rfl rfl rfl hdV_yX12_ends_RX12 ⟨Nat.le_of_ble_eq_true rfl, Nat.le_of_ble_eq_true rfl⟩) (preG_V (ci := 12) (q := (RX12, TX12, 37)) (hP.sub [0, 1] rfl) (hD.sub [0, 1] rfl rfl) hK rfl rfl) rfl rfl hl.1 rfl (lv_room (Nat.le_of_ble_eq_true rfl)) dX12_lineNow_20 ⟨Nat.le_of_ble_eq_true rfl, Nat.le_of_ble_eq_true rfl⟩) hP hD hS hA [0, 1] rfl (fun H locs hP hD hS => ?_)
    clear hcall
    have hr32 := ck_c hf
    replace hf := ck_r hf
    refine lv_if_eq (tgt := 28) hx hb dX12_lineNow_23 (by decide) (fun cc => ?_) (fun cc => ?_)
    ·
      replace hf := ite_t ((z_eq0 hr32).mp cc) hf
      clear cc
      exact hJ3  _ _ _ (lv_sub hl [0] rfl) hP hD hS hf
    ·
      replace hf := ite_f (fun h9 => cc ((z_eq0 hr32).mpr h9)) hf
      clear cc
      refine lv_iconst (v := Int32.ofInt (4 : Int)) hx hb dX12_lineNow_26 (by decide) ?_
      obtain rfl := ou1 hf
      rw [hQ]
      exact W.iret hx hb hr (fun t ht hW => ⟨⟨_, (), rfl, rfl, by rw [ht]; exact hP, va_K.moved hW.alike hK, hD⟩, hS.F ht⟩) hS.2.2 dX12_lineNow_27

noncomputable def B_X12_nextToken_140 (i_p0_taped : Int) (v_p0_tape : (Int → Int)) (J22 : Int → Int → Option (Int × Int × Int × Int × Int × Int)) (z4 : Int) (again140 : Int → Int → Option (Int × Int × Int × Int × Int × Int)) (z28 : Int) (z29 : Int) : Option (Int × Int × Int × Int × Int × Int) := (bd1 (f_X12_look i_p0_taped v_p0_tape z28) (fun (z31 : Int) => (ck (z_r32 z31) (bd1 (f_X12_in z31 (48 : Int) (57 : Int)) (fun (z33 : Int) => (ck (z_r32 z33) (if z33 = (0 : Int) then (J22 z28 z29) else (ck (z_r32 (z28 - z4)) (jn (fun (z36 : Int) => (bnd z36 (fun (z38 : Int) => (bnd (z28 + (1 : Int)) (fun (z39 : Int) => (again140 z39 z38)))))) (fun (J37 : Int → Option (Int × Int × Int × Int × Int × Int)) => (if (2 : Int) ≤ (z28 - z4) then (J37 z29) else (bd1 (f_X12_look i_p0_taped v_p0_tape z28) (fun (z40 : Int) => (J37 ((((10 : Int) * z29) + z40) - (48 : Int))))))))))))))))
noncomputable def B_X12_nextToken_82 (i_p0_taped : Int) (v_p0_tape : (Int → Int)) (z4 : Int) (z41 : Int) (i_p0_value : Int) (i_p0_fault : Int) (i_p0_wrongAt : Int) (again82 : Int → Option (Int × Int × Int × Int × Int × Int)) (z42 : Int) : Option (Int × Int × Int × Int × Int × Int) := (bd1 (f_X12_look i_p0_taped v_p0_tape z42) (fun (z44 : Int) => (ck (z_r32 z44) (bd1 (f_X12_in z44 (97 : Int) (122 : Int)) (fun (z46 : Int) => (ck (z_r32 z46) (if z46 = (0 : Int) then (some (z42, z4, z41, i_p0_value, i_p0_fault, i_p0_wrongAt)) else (bnd (z42 + (1 : Int)) (fun (z48 : Int) => (again82 z48))))))))))
noncomputable def B_X12_nextToken_8 (i_p0_taped : Int) (v_p0_tape : (Int → Int)) (J3 : Int → Option (Int × Int × Int × Int × Int × Int)) (again8 : Int → Option (Int × Int × Int × Int × Int × Int)) (z50 : Int) : Option (Int × Int × Int × Int × Int × Int) := (bd1 (f_X12_look i_p0_taped v_p0_tape z50) (fun (z52 : Int) => (ck (z_r32 z52) (if z52 = (32 : Int) then (bnd (z50 + (1 : Int)) (fun (z54 : Int) => (again8 z54))) else (J3 z50)))))
noncomputable def f_X12_nextToken (i_p0_taped : Int) (i_p0_pos : Int) (i_p0_from : Int) (i_p0_sort : Int) (i_p0_value : Int) (i_p0_fault : Int) (i_p0_wrongAt : Int) (v_p0_tape : (Int → Int)) : Option (Int × Int × Int × Int × Int × Int) := (ck (z_r32 i_p0_fault) (if i_p0_fault ≤ (0 : Int) then (jn (fun (z2 : Int) => (bnd z2 (fun (z4 : Int) => (bd1 (f_X12_look i_p0_taped v_p0_tape z2) (fun (z5 : Int) => (bnd z5 (fun (z6 : Int) => (ck (z_r32 z6) (if (0 : Int) ≤ z6 then (bd1 (f_X12_in z6 (97 : Int) (122 : Int)) (fun (z8 : Int) => (ck (z_r32 z8) (if z8 = (0 : Int) then (bd1 (f_X12_in z6 (48 : Int) (57 : Int)) (fun (z10 : Int) => (ck (z_r32 z10) (if z10 = (0 : Int) then (bnd (3 : Int) (fun (z12 : Int) => (jn (fun (z13 : Int) => (bd2 (f_X12_needs z4 i_p0_fault i_p0_wrongAt z13 (1 : Int)) (fun (z15 : Int) (z16 : Int) => (bnd (z2 + (1 : Int)) (fun (z17 : Int) => (some (z17, z4, z12, i_p0_value, z15, z16))))))) (fun (J14 : Int → Option (Int × Int × Int × Int × Int × Int)) => (if z6 = (59 : Int) then (J14 (1 : Int)) else (J14 (0 : Int))))))) else (bnd (2 : Int) (fun (z18 : Int) => (bnd (0 : Int) (fun (z19 : Int) => (jn (fun (z20 : Int) (z21 : Int) => (ck (z_r32 (z20 - z4)) (if (2 : Int) < (z20 - z4) then (bd2 (f_X12_needs z4 i_p0_fault i_p0_wrongAt (0 : Int) (1 : Int)) (fun (z24 : Int) (z25 : Int) => (some (z20, z4, z18, z21, z24, z25)))) else (bd2 (f_X12_needs z4 i_p0_fault i_p0_wrongAt (1 : Int) (1 : Int)) (fun (z26 : Int) (z27 : Int) => (some (z20, z4, z18, z21, z26, z27))))))) (fun (J22 : Int → Int → Option (Int × Int × Int × Int × Int × Int)) => (lq2 (B_X12_nextToken_140 i_p0_taped v_p0_tape J22 z4) 1000 z2 z19))))))))))) else (bnd (1 : Int) (fun (z41 : Int) => (lq1 (B_X12_nextToken_82 i_p0_taped v_p0_tape z4 z41 i_p0_value i_p0_fault i_p0_wrongAt) 1000 z2))))))) else (bnd (0 : Int) (fun (z49 : Int) => (some (z2, z4, z49, i_p0_value, i_p0_fault, i_p0_wrongAt))))))))))))) (fun (J3 : Int → Option (Int × Int × Int × Int × Int × Int)) => (lq1 (B_X12_nextToken_8 i_p0_taped v_p0_tape J3) 1000 i_p0_pos))) else (some (i_p0_pos, i_p0_from, i_p0_sort, i_p0_value, i_p0_fault, i_p0_wrongAt))))
abbrev rm_X12_nextToken : Room := { frames := 1, cells := 0, slots := 0, locals := 25 }
theorem inX12_nextToken_X12 : ∀ w ∈ wsX120, w ∈ wsX12_nextToken := by first | exact fun w h => List.mem_cons_of_mem _ (List.mem_append_right _ h) | decide +kernel
theorem mwX12_nextToken_1 : Cond.fieldLink RX12 119 "LadleKingsModel" "fault" "I" ∈ wsX12_nextToken := by first | exact List.mem_of_getElem? (i := 1) rfl | decide +kernel
theorem mwX12_nextToken_2 : Cond.fieldLink RX12 128 "LadleKingsModel" "pos" "I" ∈ wsX12_nextToken := by first | exact List.mem_of_getElem? (i := 2) rfl | decide +kernel
theorem mwX12_nextToken_3 : Cond.fieldLink RX12 122 "LadleKingsModel" "from" "I" ∈ wsX12_nextToken := by first | exact List.mem_of_getElem? (i := 3) rfl | decide +kernel
theorem mwX12_nextToken_4 : Cond.constantLong RX12 150 (97) ∈ wsX12_nextToken := by first | exact List.mem_of_getElem? (i := 5) rfl | decide +kernel
theorem mwX12_nextToken_5 : Cond.constantLong RX12 152 (122) ∈ wsX12_nextToken := by first | exact List.mem_of_getElem? (i := 6) rfl | decide +kernel
theorem mwX12_nextToken_6 : Cond.constantLong RX12 154 (48) ∈ wsX12_nextToken := by first | exact List.mem_of_getElem? (i := 7) rfl | decide +kernel
theorem mwX12_nextToken_7 : Cond.constantLong RX12 156 (57) ∈ wsX12_nextToken := by first | exact List.mem_of_getElem? (i := 8) rfl | decide +kernel
theorem mwX12_nextToken_8 : Cond.fieldLink RX12 147 "LadleKingsModel" "sort" "I" ∈ wsX12_nextToken := by first | exact List.mem_of_getElem? (i := 4) rfl | decide +kernel
theorem hdV_yX12_needs_RX12 : yX12_needs.cls = RX12 ∧ yX12_needs.cls ≠ "java/lang/invoke/MethodHandle" ∧ yX12_needs.cls ≠ "java/lang/invoke/VarHandle" ∧ (parseMethodDescriptor yX12_needs.desc).map (fun d => d.parameters.length) = some 2 := by decide +kernel
theorem mwX12_nextToken_10 : Cond.fieldLink RX12 158 "LadleKingsModel" "value" "I" ∈ wsX12_nextToken := by first | exact List.mem_of_getElem? (i := 9) rfl | decide +kernel
set_option maxHeartbeats 8000000 in
set_option maxRecDepth 100000 in
theorem c_X12_nextToken (l : Launch) (D : va_G) (G : Nat → ClassId) (sz : Nat) (a_p0 : Nat) (a_p0_st : Nat) (a_p0_isKept : Nat) (a_p0_brings : Nat) (a_p0_need : Nat) (a_p0_draft : Nat) (a_p0_dStir : Nat) (a_p0_dNeed : Nat) (a_p0_tape : Nat) (a_p0_places : Nat) (a_p0_stirred : Nat) (a_p0_ways : Nat) (a_p0_waysThen : Nat) (a_p0_stays : Nat) (a_p0_fewest : Nat) (a_p0_bowls : Nat) (a_p0_has : Nat) (a_p0_goesOn : Nat) (a_p0_isThere : Nat) (a_p0_isThereThen : Nat) (a_p0_bestRow : Nat) (a_p0_lanes : Nat) (a_p0_sizes : Nat) (a_p0_cells : Nat) (i_p0_seats : Int) (i_p0_stirs : Int) (i_p0_dSeats : Int) (i_p0_dStirs : Int) (i_p0_told : Int) (i_p0_highest : Int) (i_p0_taped : Int) (i_p0_pos : Int) (i_p0_from : Int) (i_p0_sort : Int) (i_p0_value : Int) (i_p0_fault : Int) (i_p0_wrongAt : Int) (i_p0_torn : Int) (v_p0_tape : (Int → Int)) (o_i_p0_pos : Int) (o_i_p0_from : Int) (o_i_p0_sort : Int) (o_i_p0_value : Int) (o_i_p0_fault : Int) (o_i_p0_wrongAt : Int) (hf : f_X12_nextToken i_p0_taped i_p0_pos i_p0_from i_p0_sort i_p0_value i_p0_fault i_p0_wrongAt v_p0_tape = some (o_i_p0_pos, o_i_p0_from, o_i_p0_sort, o_i_p0_value, o_i_p0_fault, o_i_p0_wrongAt)) : Met l yX12_nextToken wsX12_nextToken rm_X12_nextToken (pcG D G [.ref a_p0] sz [(a_p0, .inr (12, [.ref a_p0_st, .ref a_p0_isKept, .int (Int32.ofInt i_p0_seats), .int (Int32.ofInt i_p0_stirs), .ref a_p0_brings, .ref a_p0_need, .ref a_p0_draft, .int (Int32.ofInt i_p0_dSeats), .int (Int32.ofInt i_p0_dStirs), .ref a_p0_dStir, .ref a_p0_dNeed, .int (Int32.ofInt i_p0_told), .int (Int32.ofInt i_p0_highest), .ref a_p0_tape, .int (Int32.ofInt i_p0_taped), .int (Int32.ofInt i_p0_pos), .int (Int32.ofInt i_p0_from), .int (Int32.ofInt i_p0_sort), .int (Int32.ofInt i_p0_value), .int (Int32.ofInt i_p0_fault), .int (Int32.ofInt i_p0_wrongAt), .ref a_p0_places, .ref a_p0_stirred, .ref a_p0_ways, .ref a_p0_waysThen, .ref a_p0_stays, .ref a_p0_fewest, .ref a_p0_bowls, .ref a_p0_has, .ref a_p0_goesOn, .ref a_p0_isThere, .ref a_p0_isThereThen, .ref a_p0_bestRow, .ref a_p0_lanes, .ref a_p0_sizes, .ref a_p0_cells, .int (Int32.ofInt i_p0_torn)])), (a_p0_tape, .inl (G 1, 320, .inl (zA v_p0_tape)))]) (qcV D G [(a_p0, .inr (12, [.ref a_p0_st, .ref a_p0_isKept, .int (Int32.ofInt i_p0_seats), .int (Int32.ofInt i_p0_stirs), .ref a_p0_brings, .ref a_p0_need, .ref a_p0_draft, .int (Int32.ofInt i_p0_dSeats), .int (Int32.ofInt i_p0_dStirs), .ref a_p0_dStir, .ref a_p0_dNeed, .int (Int32.ofInt i_p0_told), .int (Int32.ofInt i_p0_highest), .ref a_p0_tape, .int (Int32.ofInt i_p0_taped), .int (Int32.ofInt o_i_p0_pos), .int (Int32.ofInt o_i_p0_from), .int (Int32.ofInt o_i_p0_sort), .int (Int32.ofInt o_i_p0_value), .int (Int32.ofInt o_i_p0_fault), .int (Int32.ofInt o_i_p0_wrongAt), .ref a_p0_places, .ref a_p0_stirred, .ref a_p0_ways, .ref a_p0_waysThen, .ref a_p0_stays, .ref a_p0_fewest, .ref a_p0_bowls, .ref a_p0_has, .ref a_p0_goesOn, .ref a_p0_isThere, .ref a_p0_isThereThen, .ref a_p0_bestRow, .ref a_p0_lanes, .ref a_p0_sizes, .ref a_p0_cells, .int (Int32.ofInt i_p0_torn)])), (a_p0_tape, .inl (G 1, 320, .inl (zA v_p0_tape)))] (va_A [(a_p0, .inr (12, [.ref a_p0_st, .ref a_p0_isKept, .int (Int32.ofInt i_p0_seats), .int (Int32.ofInt i_p0_stirs), .ref a_p0_brings, .ref a_p0_need, .ref a_p0_draft, .int (Int32.ofInt i_p0_dSeats), .int (Int32.ofInt i_p0_dStirs), .ref a_p0_dStir, .ref a_p0_dNeed, .int (Int32.ofInt i_p0_told), .int (Int32.ofInt i_p0_highest), .ref a_p0_tape, .int (Int32.ofInt i_p0_taped), .int (Int32.ofInt i_p0_pos), .int (Int32.ofInt i_p0_from), .int (Int32.ofInt i_p0_sort), .int (Int32.ofInt i_p0_value), .int (Int32.ofInt i_p0_fault), .int (Int32.ofInt i_p0_wrongAt), .ref a_p0_places, .ref a_p0_stirred, .ref a_p0_ways, .ref a_p0_waysThen, .ref a_p0_stays, .ref a_p0_fewest, .ref a_p0_bowls, .ref a_p0_has, .ref a_p0_goesOn, .ref a_p0_isThere, .ref a_p0_isThereThen, .ref a_p0_bestRow, .ref a_p0_lanes, .ref a_p0_sizes, .ref a_p0_cells, .int (Int32.ofInt i_p0_torn)])), (a_p0_tape, .inl (G 1, 320, .inl (zA v_p0_tape)))] sz)) 0 0 (va_A [(a_p0, .inr (12, [.ref a_p0_st, .ref a_p0_isKept, .int (Int32.ofInt i_p0_seats), .int (Int32.ofInt i_p0_stirs), .ref a_p0_brings, .ref a_p0_need, .ref a_p0_draft, .int (Int32.ofInt i_p0_dSeats), .int (Int32.ofInt i_p0_dStirs), .ref a_p0_dStir, .ref a_p0_dNeed, .int (Int32.ofInt i_p0_told), .int (Int32.ofInt i_p0_highest), .ref a_p0_tape, .int (Int32.ofInt i_p0_taped), .int (Int32.ofInt i_p0_pos), .int (Int32.ofInt i_p0_from), .int (Int32.ofInt i_p0_sort), .int (Int32.ofInt i_p0_value), .int (Int32.ofInt i_p0_fault), .int (Int32.ofInt i_p0_wrongAt), .ref a_p0_places, .ref a_p0_stirred, .ref a_p0_ways, .ref a_p0_waysThen, .ref a_p0_stays, .ref a_p0_fewest, .ref a_p0_bowls, .ref a_p0_has, .ref a_p0_goesOn, .ref a_p0_isThere, .ref a_p0_isThereThen, .ref a_p0_bestRow, .ref a_p0_lanes, .ref a_p0_sizes, .ref a_p0_cells, .int (Int32.ofInt i_p0_torn)])), (a_p0_tape, .inl (G 1, 320, .inl (zA v_p0_tape)))] sz) := by
  refine Met.ofW (cc := cX12_nextToken) (maxL := 2) (ret := none) (by decide) rfl ?_
  intro p e s m args below meth c s₁ B hml hv
  obtain ⟨rfl, hsz, hP, hK, hD0⟩ := hv
  have hx := B.exec
  have hb := B.bytes
  have hr := B.returns
  have hts := atoms_spec (ws := wsX12_nextToken) B.pre
  have hown : s.vm.findClass RX12 = some m.cls := findClass_of_methodNamed B.named
  have hlocks := B.notSynchronized
  subst hsz
  have hD := hD0.self (sz := s.heap.size)
  generalize hAe : va_A [(a_p0, .inr (12, [.ref a_p0_st, .ref a_p0_isKept, .int (Int32.ofInt i_p0_seats), .int (Int32.ofInt i_p0_stirs), .ref a_p0_brings, .ref a_p0_need, .ref a_p0_draft, .int (Int32.ofInt i_p0_dSeats), .int (Int32.ofInt i_p0_dStirs), .ref a_p0_dStir, .ref a_p0_dNeed, .int (Int32.ofInt i_p0_told), .int (Int32.ofInt i_p0_highest), .ref a_p0_tape, .int (Int32.ofInt i_p0_taped), .int (Int32.ofInt i_p0_pos), .int (Int32.ofInt i_p0_from), .int (Int32.ofInt i_p0_sort), .int (Int32.ofInt i_p0_value), .int (Int32.ofInt i_p0_fault), .int (Int32.ofInt i_p0_wrongAt), .ref a_p0_places, .ref a_p0_stirred, .ref a_p0_ways, .ref a_p0_waysThen, .ref a_p0_stays, .ref a_p0_fewest, .ref a_p0_bowls, .ref a_p0_has, .ref a_p0_goesOn, .ref a_p0_isThere, .ref a_p0_isThereThen, .ref a_p0_bestRow, .ref a_p0_lanes, .ref a_p0_sizes, .ref a_p0_cells, .int (Int32.ofInt i_p0_torn)])), (a_p0_tape, .inl (G 1, 320, .inl (zA v_p0_tape)))] s.heap.size = A at hD ⊢
  have hA : ∀ q : Nat, s.heap.size ≤ q → A q := fun q h => by rw [← hAe]; exact Or.inr h
  clear hAe hD0
  have hS : va_S A s.heap s.heap [] := va_S.rf
  have hl := lv_entry ([.ref a_p0]) (n := 2) (Nat.le_of_ble_eq_true rfl)
  rw [lg_entry_eq]
  generalize (lg_sl ([.ref a_p0]) ++ List.replicate (2 - (lg_sl ([.ref a_p0])).length) Slot.unset).toArray = ls at hl ⊢
  have hl : lv_has ls 2 [(0, .ref a_p0)] := hl
  refine W_nameQ (fun Q hQ => ?_)
  obtain ⟨H, hH⟩ : ∃ H, H = s.heap := ⟨_, rfl⟩
  replace hS : va_S A s.heap H [] := by rw [hH]; exact hS
  replace hP : va_P D vwCl [(a_p0, .inr (12, [.ref a_p0_st, .ref a_p0_isKept, .int (Int32.ofInt i_p0_seats), .int (Int32.ofInt i_p0_stirs), .ref a_p0_brings, .ref a_p0_need, .ref a_p0_draft, .int (Int32.ofInt i_p0_dSeats), .int (Int32.ofInt i_p0_dStirs), .ref a_p0_dStir, .ref a_p0_dNeed, .int (Int32.ofInt i_p0_told), .int (Int32.ofInt i_p0_highest), .ref a_p0_tape, .int (Int32.ofInt i_p0_taped), .int (Int32.ofInt i_p0_pos), .int (Int32.ofInt i_p0_from), .int (Int32.ofInt i_p0_sort), .int (Int32.ofInt i_p0_value), .int (Int32.ofInt i_p0_fault), .int (Int32.ofInt i_p0_wrongAt), .ref a_p0_places, .ref a_p0_stirred, .ref a_p0_ways, .ref a_p0_waysThen, .ref a_p0_stays, .ref a_p0_fewest, .ref a_p0_bowls, .ref a_p0_has, .ref a_p0_goesOn, .ref a_p0_isThere, .ref a_p0_isThereThen, .ref a_p0_bestRow, .ref a_p0_lanes, .ref a_p0_sizes, .ref a_p0_cells, .int (Int32.ofInt i_p0_torn)])), (a_p0_tape, .inl (G 1, 320, .inl (zA v_p0_tape)))] H := by rw [hH]; exact hP
  rw [← hH]
  clear hH
  unfold f_X12_nextToken at hf
  refine lv_aload_n hx hb dX12_nextToken_0 rfl (lv_at hl 0 rfl) ?_
  refine va_get (D := D) (ci := 12) (v := .int (Int32.ofInt i_p0_fault)) (C := RX12) (T := TX12) (N := 37) hx hb hts inX12_nextToken_X12 hown hK hP 0 rfl rfl 19 (by decide) (hts _ mwX12_nextToken_1) (fun _ h9 => h9) rfl dX12_nextToken_1 ?_
  have hr0 := ck_c hf
  replace hf := ck_r hf
  refine lv_if_le (tgt := 8) hx hb dX12_nextToken_4 (by decide) (fun cc => ?_) (fun cc => ?_)
  ·
    replace hf := ite_t ((z_le0 hr0).mp cc) hf
    clear cc
    have hq := jn_i hf
    clear hf
    obtain ⟨J3, eJ3, hf⟩ := hq
    have hJ3 : ∀ (z2 : Int) (ls : Array Slot) (H : Heap) (locs : List Loc), lv_has ls 2 [(0, .ref a_p0)] → va_P D vwCl [(a_p0, .inr (12, [.ref a_p0_st, .ref a_p0_isKept, .int (Int32.ofInt i_p0_seats), .int (Int32.ofInt i_p0_stirs), .ref a_p0_brings, .ref a_p0_need, .ref a_p0_draft, .int (Int32.ofInt i_p0_dSeats), .int (Int32.ofInt i_p0_dStirs), .ref a_p0_dStir, .ref a_p0_dNeed, .int (Int32.ofInt i_p0_told), .int (Int32.ofInt i_p0_highest), .ref a_p0_tape, .int (Int32.ofInt i_p0_taped), .int (Int32.ofInt z2), .int (Int32.ofInt i_p0_from), .int (Int32.ofInt i_p0_sort), .int (Int32.ofInt i_p0_value), .int (Int32.ofInt i_p0_fault), .int (Int32.ofInt i_p0_wrongAt), .ref a_p0_places, .ref a_p0_stirred, .ref a_p0_ways, .ref a_p0_waysThen, .ref a_p0_stays, .ref a_p0_fewest, .ref a_p0_bowls, .ref a_p0_has, .ref a_p0_goesOn, .ref a_p0_isThere, .ref a_p0_isThereThen, .ref a_p0_bestRow, .ref a_p0_lanes, .ref a_p0_sizes, .ref a_p0_cells, .int (Int32.ofInt i_p0_torn)])), (a_p0_tape, .inl (G 1, 320, .inl (zA v_p0_tape)))] H → va_D A [(a_p0, .inr (12, [.ref a_p0_st, .ref a_p0_isKept, .int (Int32.ofInt i_p0_seats), .int (Int32.ofInt i_p0_stirs), .ref a_p0_brings, .ref a_p0_need, .ref a_p0_draft, .int (Int32.ofInt i_p0_dSeats), .int (Int32.ofInt i_p0_dStirs), .ref a_p0_dStir, .ref a_p0_dNeed, .int (Int32.ofInt i_p0_told), .int (Int32.ofInt i_p0_highest), .ref a_p0_tape, .int (Int32.ofInt i_p0_taped), .int (Int32.ofInt z2), .int (Int32.ofInt i_p0_from), .int (Int32.ofInt i_p0_sort), .int (Int32.ofInt i_p0_value), .int (Int32.ofInt i_p0_fault), .int (Int32.ofInt i_p0_wrongAt), .ref a_p0_places, .ref a_p0_stirred, .ref a_p0_ways, .ref a_p0_waysThen, .ref a_p0_stays, .ref a_p0_fewest, .ref a_p0_bowls, .ref a_p0_has, .ref a_p0_goesOn, .ref a_p0_isThere, .ref a_p0_isThereThen, .ref a_p0_bestRow, .ref a_p0_lanes, .ref a_p0_sizes, .ref a_p0_cells, .int (Int32.ofInt i_p0_torn)])), (a_p0_tape, .inl (G 1, 320, .inl (zA v_p0_tape)))] → va_S A s.heap H locs → J3 z2 = some (o_i_p0_pos, o_i_p0_from, o_i_p0_sort, o_i_p0_value, o_i_p0_fault, o_i_p0_wrongAt) → W p l e rm_X12_nextToken s m ([.ref a_p0] : List Value).toArray below meth c H locs 0 0 Q (F0 m 34 ls []) := by
      clear hf hl hP hD hS
      intro z2 ls H locs hl hP hD hS hf
      replace hf := jn1_s eJ3 hf
      refine lv_aload_n hx hb dX12_nextToken_34 rfl (lv_at hl 0 rfl) ?_
      refine lv_aload_n hx hb dX12_nextToken_35 rfl (lv_at hl 0 rfl) ?_
      refine va_get (D := D) (ci := 12) (v := .int (Int32.ofInt z2)) (C := RX12) (T := TX12) (N := 37) hx hb hts inX12_nextToken_X12 hown hK hP 0 rfl rfl 15 (by decide) (hts _ mwX12_nextToken_2) (fun _ h9 => h9) rfl dX12_nextToken_36 ?_
      refine z_topi (fun z4 ez => ?_)
      replace hf := bnd_s hf ez
      clear ez
      refine va_put (D := D) (ci := 12) (v := .int (Int32.ofInt z4)) (ty := .int) (C := RX12) (T := TX12) (N := 37) hx hb hts inX12_nextToken_X12 tyX12 tyX12_ok nmX12 hown hK hP hD hS 0 rfl rfl 16 (by decide) (hts _ mwX12_nextToken_3) (fun _ h9 => h9) rfl (by decide +kernel) rfl rfl (Nat.le_of_ble_eq_true rfl) dX12_nextToken_39 (fun H locs hP hD hS => ?_)
      have hP : va_P D vwCl [(a_p0, .inr (12, [.ref a_p0_st, .ref a_p0_isKept, .int (Int32.ofInt i_p0_seats), .int (Int32.ofInt i_p0_stirs), .ref a_p0_brings, .ref a_p0_need, .ref a_p0_draft, .int (Int32.ofInt i_p0_dSeats), .int (Int32.ofInt i_p0_dStirs), .ref a_p0_dStir, .ref a_p0_dNeed, .int (Int32.ofInt i_p0_told), .int (Int32.ofInt i_p0_highest), .ref a_p0_tape, .int (Int32.ofInt i_p0_taped), .int (Int32.ofInt z2), .int (Int32.ofInt z4), .int (Int32.ofInt i_p0_sort), .int (Int32.ofInt i_p0_value), .int (Int32.ofInt i_p0_fault), .int (Int32.ofInt i_p0_wrongAt), .ref a_p0_places, .ref a_p0_stirred, .ref a_p0_ways, .ref a_p0_waysThen, .ref a_p0_stays, .ref a_p0_fewest, .ref a_p0_bowls, .ref a_p0_has, .ref a_p0_goesOn, .ref a_p0_isThere, .ref a_p0_isThereThen, .ref a_p0_bestRow, .ref a_p0_lanes, .ref a_p0_sizes, .ref a_p0_cells, .int (Int32.ofInt i_p0_torn)])), (a_p0_tape, .inl (G 1, 320, .inl (zA v_p0_tape)))] H := hP
      have hD : va_D A [(a_p0, .inr (12, [.ref a_p0_st, .ref a_p0_isKept, .int (Int32.ofInt i_p0_seats), .int (Int32.ofInt i_p0_stirs), .ref a_p0_brings, .ref a_p0_need, .ref a_p0_draft, .int (Int32.ofInt i_p0_dSeats), .int (Int32.ofInt i_p0_dStirs), .ref a_p0_dStir, .ref a_p0_dNeed, .int (Int32.ofInt i_p0_told), .int (Int32.ofInt i_p0_highest), .ref a_p0_tape, .int (Int32.ofInt i_p0_taped), .int (Int32.ofInt z2), .int (Int32.ofInt z4), .int (Int32.ofInt i_p0_sort), .int (Int32.ofInt i_p0_value), .int (Int32.ofInt i_p0_fault), .int (Int32.ofInt i_p0_wrongAt), .ref a_p0_places, .ref a_p0_stirred, .ref a_p0_ways, .ref a_p0_waysThen, .ref a_p0_stays, .ref a_p0_fewest, .ref a_p0_bowls, .ref a_p0_has, .ref a_p0_goesOn, .ref a_p0_isThere, .ref a_p0_isThereThen, .ref a_p0_bestRow, .ref a_p0_lanes, .ref a_p0_sizes, .ref a_p0_cells, .int (Int32.ofInt i_p0_torn)])), (a_p0_tape, .inl (G 1, 320, .inl (zA v_p0_tape)))] := hD
      refine lv_aload_n hx hb dX12_nextToken_42 rfl (lv_at hl 0 rfl) ?_
      refine lv_aload_n hx hb dX12_nextToken_43 rfl (lv_at hl 0 rfl) ?_
      refine va_get (D := D) (ci := 12) (v := .int (Int32.ofInt z2)) (C := RX12) (T := TX12) (N := 37) hx hb hts inX12_nextToken_X12 hown hK hP 0 rfl rfl 15 (by decide) (hts _ mwX12_nextToken_2) (fun _ h9 => h9) rfl dX12_nextToken_44 ?_
      have hq := bd1_s hf
      clear hf
      obtain ⟨z5, hcall, hf⟩ := hq
      refine gnI (va_runV (As := [.int (Int32.ofInt z2)]) (rest := []) ⟨hx, hb, hml, hown, hts⟩ (c_X12_look (l := l) (D := D) (G := G) (sz := H.size) (a_p0 := a_p0) (a_p0_st := a_p0_st) (a_p0_isKept := a_p0_isKept) (a_p0_brings := a_p0_brings) (a_p0_need := a_p0_need) (a_p0_draft := a_p0_draft) (a_p0_dStir := a_p0_dStir) (a_p0_dNeed := a_p0_dNeed) (a_p0_tape := a_p0_tape) (a_p0_places := a_p0_places) (a_p0_stirred := a_p0_stirred) (a_p0_ways := a_p0_ways) (a_p0_waysThen := a_p0_waysThen) (a_p0_stays := a_p0_stays) (a_p0_fewest := a_p0_fewest) (a_p0_bowls := a_p0_bowls) (a_p0_has := a_p0_has) (a_p0_goesOn := a_p0_goesOn) (a_p0_isThere := a_p0_isThere) (a_p0_isThereThen := a_p0_isThereThen) (a_p0_bestRow := a_p0_bestRow) (a_p0_lanes := a_p0_lanes) (a_p0_sizes := a_p0_sizes) (a_p0_cells := a_p0_cells) (i_p0_seats := i_p0_seats) (i_p0_stirs := i_p0_stirs) (i_p0_dSeats := i_p0_dSeats) (i_p0_dStirs := i_p0_dStirs) (i_p0_told := i_p0_told) (i_p0_highest := i_p0_highest) (i_p0_taped := i_p0_taped) (i_p0_pos := z2) (i_p0_from := z4) (i_p0_sort := i_p0_sort) (i_p0_value := i_p0_value) (i_p0_fault := i_p0_fault) (i_p0_wrongAt := i_p0_wrongAt) (i_p0_torn := i_p0_torn) (v_p0_tape := v_p0_tape) (x1 := z2) (r := z5) (hf := hcall)) (cwV 1 hts gX12_nextToken_X12_look rfl rfl rfl hdV_yX12_look_RX12 ⟨Nat.le_of_ble_eq_true rfl, Nat.le_of_ble_eq_true rfl⟩) (preG_V (ci := 12) (q := (RX12, TX12, 37)) (hP.sub [0, 1] rfl) (hD.sub [0, 1] rfl rfl) hK rfl rfl) rfl rfl hl.1 rfl (lv_room (Nat.le_of_ble_eq_true rfl)) dX12_nextToken_47 ⟨Nat.le_of_ble_eq_true rfl, Nat.le_of_ble_eq_true rfl⟩) hP hD hS hA [0, 1] rfl (fun H locs hP hD hS => ?_)
      clear hcall
      refine z_topi (fun z6 ez => ?_)
      replace hf := bnd_s hf ez
      clear ez
      refine lv_istore_n (lv' := [(1, .int (Int32.ofInt z6)), (0, .ref a_p0)]) hx hb dX12_nextToken_50 rfl hl (by decide) rfl (fun ls hl => ?_)
      refine lv_iload_n hx hb dX12_nextToken_51 rfl (lv_at hl 0 rfl) ?_
      have hr6 := ck_c hf
      replace hf := ck_r hf
      refine lv_if_ge (tgt := 63) hx hb dX12_nextToken_52 (by decide) (fun cc => ?_) (fun cc => ?_)
      ·
        replace hf := ite_t ((z_0le hr6).mp cc) hf
        clear cc
        refine lv_iload_n hx hb dX12_nextToken_63 rfl (lv_at hl 0 rfl) ?_
        refine lv_i2l (v := Int64.ofInt z6) hx hb dX12_nextToken_64 (z_i2l hr6) ?_
        refine lv_ldc2 (v := (97 : Int64)) hx hb hown (hts _ mwX12_nextToken_4) dX12_nextToken_65 (z_cl (show Int64.ofInt (97 : Int) = _ from by decide) ?_)
        refine lv_ldc2 (v := (122 : Int64)) hx hb hown (hts _ mwX12_nextToken_5) dX12_nextToken_68 (z_cl (show Int64.ofInt (122 : Int) = _ from by decide) ?_)
        have hq := bd1_s hf
        clear hf
        obtain ⟨z8, hcall, hf⟩ := hq
        refine gnI (va_runS (As := [.long (Int64.ofInt z6), .long (Int64.ofInt (97 : Int)), .long (Int64.ofInt (122 : Int))]) (rest := []) ⟨hx, hb, hml, hown, hts⟩ (c_X12_in (l := l) (D := D) (G := G) (sz := H.size) (x0 := z6) (x2 := (97 : Int)) (x4 := (122 : Int)) (r := z8) (hf := hcall)) (va_cwS 3 hts gX12_nextToken_X12_in rfl rfl rfl (by decide +kernel) ⟨Nat.le_of_ble_eq_true rfl, Nat.le_of_ble_eq_true rfl⟩) (preG_S (hP.sub [] rfl) (hD.sub [] rfl rfl) hK) rfl rfl hl.1 rfl (lv_room (Nat.le_of_ble_eq_true rfl)) dX12_nextToken_71 ⟨Nat.le_of_ble_eq_true rfl, Nat.le_of_ble_eq_true rfl⟩) hP hD hS hA [] rfl (fun H locs hP hD hS => ?_)
        clear hcall
        have hr8 := ck_c hf
        replace hf := ck_r hf
        refine lv_if_eq (tgt := 116) hx hb dX12_nextToken_74 (by decide) (fun cc => ?_) (fun cc => ?_)
        ·
          replace hf := ite_t ((z_eq0 hr8).mp cc) hf
          clear cc
          refine lv_iload_n hx hb dX12_nextToken_116 rfl (lv_at hl 0 rfl) ?_
          refine lv_i2l (v := Int64.ofInt z6) hx hb dX12_nextToken_117 (z_i2l hr6) ?_
          refine lv_ldc2 (v := (48 : Int64)) hx hb hown (hts _ mwX12_nextToken_6) dX12_nextToken_118 (z_cl (show Int64.ofInt (48 : Int) = _ from by decide) ?_)
          refine lv_ldc2 (v := (57 : Int64)) hx hb hown (hts _ mwX12_nextToken_7) dX12_nextToken_121 (z_cl (show Int64.ofInt (57 : Int) = _ from by decide) ?_)
          have hq := bd1_s hf
          clear hf
          obtain ⟨z10, hcall, hf⟩ := hq
          refine gnI (va_runS (As := [.long (Int64.ofInt z6), .long (Int64.ofInt (48 : Int)), .long (Int64.ofInt (57 : Int))]) (rest := []) ⟨hx, hb, hml, hown, hts⟩ (c_X12_in (l := l) (D := D) (G := G) (sz := H.size) (x0 := z6) (x2 := (48 : Int)) (x4 := (57 : Int)) (r := z10) (hf := hcall)) (va_cwS 3 hts gX12_nextToken_X12_in rfl rfl rfl (by decide +kernel) ⟨Nat.le_of_ble_eq_true rfl, Nat.le_of_ble_eq_true rfl⟩) (preG_S (hP.sub [] rfl) (hD.sub [] rfl rfl) hK) rfl rfl hl.1 rfl (lv_room (Nat.le_of_ble_eq_true rfl)) dX12_nextToken_124 ⟨Nat.le_of_ble_eq_true rfl, Nat.le_of_ble_eq_true rfl⟩) hP hD hS hA [] rfl (fun H locs hP hD hS => ?_)
          clear hcall
          have hr10 := ck_c hf
          replace hf := ck_r hf
          refine lv_if_eq (tgt := 243) hx hb dX12_nextToken_127 (by decide) (fun cc => ?_) (fun cc => ?_)
          ·
            replace hf := ite_t ((z_eq0 hr10).mp cc) hf
            clear cc
            refine lv_aload_n hx hb dX12_nextToken_243 rfl (lv_at hl 1 rfl) ?_
            refine lv_iconst (v := Int32.ofInt (3 : Int)) hx hb dX12_nextToken_244 (by decide) ?_
            refine z_topi (fun z12 ez => ?_)
            replace hf := bnd_s hf ez
            clear ez
            refine va_put (D := D) (ci := 12) (v := .int (Int32.ofInt z12)) (ty := .int) (C := RX12) (T := TX12) (N := 37) hx hb hts inX12_nextToken_X12 tyX12 tyX12_ok nmX12 hown hK hP hD hS 0 rfl rfl 17 (by decide) (hts _ mwX12_nextToken_8) (fun _ h9 => h9) rfl (by decide +kernel) rfl rfl (Nat.le_of_ble_eq_true rfl) dX12_nextToken_245 (fun H locs hP hD hS => ?_)
            have hP : va_P D vwCl [(a_p0, .inr (12, [.ref a_p0_st, .ref a_p0_isKept, .int (Int32.ofInt i_p0_seats), .int (Int32.ofInt i_p0_stirs), .ref a_p0_brings, .ref a_p0_need, .ref a_p0_draft, .int (Int32.ofInt i_p0_dSeats), .int (Int32.ofInt i_p0_dStirs), .ref a_p0_dStir, .ref a_p0_dNeed, .int (Int32.ofInt i_p0_told), .int (Int32.ofInt i_p0_highest), .ref a_p0_tape, .int (Int32.ofInt i_p0_taped), .int (Int32.ofInt z2), .int (Int32.ofInt z4), .int (Int32.ofInt z12), .int (Int32.ofInt i_p0_value), .int (Int32.ofInt i_p0_fault), .int (Int32.ofInt i_p0_wrongAt), .ref a_p0_places, .ref a_p0_stirred, .ref a_p0_ways, .ref a_p0_waysThen, .ref a_p0_stays, .ref a_p0_fewest, .ref a_p0_bowls, .ref a_p0_has, .ref a_p0_goesOn, .ref a_p0_isThere, .ref a_p0_isThereThen, .ref a_p0_bestRow, .ref a_p0_lanes, .ref a_p0_sizes, .ref a_p0_cells, .int (Int32.ofInt i_p0_torn)])), (a_p0_tape, .inl (G 1, 320, .inl (zA v_p0_tape)))] H := hP
            have hD : va_D A [(a_p0, .inr (12, [.ref a_p0_st, .ref a_p0_isKept, .int (Int32.ofInt i_p0_seats), .int (Int32.ofInt i_p0_stirs), .ref a_p0_brings, .ref a_p0_need, .ref a_p0_draft, .int (Int32.ofInt i_p0_dSeats), .int (Int32.ofInt i_p0_dStirs), .ref a_p0_dStir, .ref a_p0_dNeed, .int (Int32.ofInt i_p0_told), .int (Int32.ofInt i_p0_highest), .ref a_p0_tape, .int (Int32.ofInt i_p0_taped), .int (Int32.ofInt z2), .int (Int32.ofInt z4), .int (Int32.ofInt z12), .int (Int32.ofInt i_p0_value), .int (Int32.ofInt i_p0_fault), .int (Int32.ofInt i_p0_wrongAt), .ref a_p0_places, .ref a_p0_stirred, .ref a_p0_ways, .ref a_p0_waysThen, .ref a_p0_stays, .ref a_p0_fewest, .ref a_p0_bowls, .ref a_p0_has, .ref a_p0_goesOn, .ref a_p0_isThere, .ref a_p0_isThereThen, .ref a_p0_bestRow, .ref a_p0_lanes, .ref a_p0_sizes, .ref a_p0_cells, .int (Int32.ofInt i_p0_torn)])), (a_p0_tape, .inl (G 1, 320, .inl (zA v_p0_tape)))] := hD
            refine lv_aload_n hx hb dX12_nextToken_248 rfl (lv_at hl 1 rfl) ?_
            refine lv_iload_n hx hb dX12_nextToken_249 rfl (lv_at hl 0 rfl) ?_
            refine lv_bipush (v := Int32.ofInt (59 : Int)) hx hb dX12_nextToken_250 (by decide) ?_
            have hq := jn_i hf
            clear hf
            obtain ⟨J14, eJ14, hf⟩ := hq
            have hJ14 : ∀ (z13 : Int) (ls : Array Slot) (H : Heap) (locs : List Loc), lv_has ls 2 [(0, .ref a_p0)] → va_P D vwCl [(a_p0, .inr (12, [.ref a_p0_st, .ref a_p0_isKept, .int (Int32.ofInt i_p0_seats), .int (Int32.ofInt i_p0_stirs), .ref a_p0_brings, .ref a_p0_need, .ref a_p0_draft, .int (Int32.ofInt i_p0_dSeats), .int (Int32.ofInt i_p0_dStirs), .ref a_p0_dStir, .ref a_p0_dNeed, .int (Int32.ofInt i_p0_told), .int (Int32.ofInt i_p0_highest), .ref a_p0_tape, .int (Int32.ofInt i_p0_taped), .int (Int32.ofInt z2), .int (Int32.ofInt z4), .int (Int32.ofInt z12), .int (Int32.ofInt i_p0_value), .int (Int32.ofInt i_p0_fault), .int (Int32.ofInt i_p0_wrongAt), .ref a_p0_places, .ref a_p0_stirred, .ref a_p0_ways, .ref a_p0_waysThen, .ref a_p0_stays, .ref a_p0_fewest, .ref a_p0_bowls, .ref a_p0_has, .ref a_p0_goesOn, .ref a_p0_isThere, .ref a_p0_isThereThen, .ref a_p0_bestRow, .ref a_p0_lanes, .ref a_p0_sizes, .ref a_p0_cells, .int (Int32.ofInt i_p0_torn)])), (a_p0_tape, .inl (G 1, 320, .inl (zA v_p0_tape)))] H → va_D A [(a_p0, .inr (12, [.ref a_p0_st, .ref a_p0_isKept, .int (Int32.ofInt i_p0_seats), .int (Int32.ofInt i_p0_stirs), .ref a_p0_brings, .ref a_p0_need, .ref a_p0_draft, .int (Int32.ofInt i_p0_dSeats), .int (Int32.ofInt i_p0_dStirs), .ref a_p0_dStir, .ref a_p0_dNeed, .int (Int32.ofInt i_p0_told), .int (Int32.ofInt i_p0_highest), .ref a_p0_tape, .int (Int32.ofInt i_p0_taped), .int (Int32.ofInt z2), .int (Int32.ofInt z4), .int (Int32.ofInt z12), .int (Int32.ofInt i_p0_value), .int (Int32.ofInt i_p0_fault), .int (Int32.ofInt i_p0_wrongAt), .ref a_p0_places, .ref a_p0_stirred, .ref a_p0_ways, .ref a_p0_waysThen, .ref a_p0_stays, .ref a_p0_fewest, .ref a_p0_bowls, .ref a_p0_has, .ref a_p0_goesOn, .ref a_p0_isThere, .ref a_p0_isThereThen, .ref a_p0_bestRow, .ref a_p0_lanes, .ref a_p0_sizes, .ref a_p0_cells, .int (Int32.ofInt i_p0_torn)])), (a_p0_tape, .inl (G 1, 320, .inl (zA v_p0_tape)))] → va_S A s.heap H locs → J14 z13 = some (o_i_p0_pos, o_i_p0_from, o_i_p0_sort, o_i_p0_value, o_i_p0_fault, o_i_p0_wrongAt) → W p l e rm_X12_nextToken s m ([.ref a_p0] : List Value).toArray below meth c H locs 0 0 Q (F0 m 260 ls [.int (Int32.ofInt z13), .ref a_p0]) := by
              clear hf hl hP hD hS
              intro z13 ls H locs hl hP hD hS hf
              replace hf := jn1_s eJ14 hf
              refine lv_iconst (v := Int32.ofInt (1 : Int)) hx hb dX12_nextToken_260 (by decide) ?_
              have hq := bd2_s hf
              clear hf
              obtain ⟨z15, z16, hcall, hf⟩ := hq
              refine gsV (ws' := [(a_p0, .inr (12, [.ref a_p0_st, .ref a_p0_isKept, .int (Int32.ofInt i_p0_seats), .int (Int32.ofInt i_p0_stirs), .ref a_p0_brings, .ref a_p0_need, .ref a_p0_draft, .int (Int32.ofInt i_p0_dSeats), .int (Int32.ofInt i_p0_dStirs), .ref a_p0_dStir, .ref a_p0_dNeed, .int (Int32.ofInt i_p0_told), .int (Int32.ofInt i_p0_highest), .ref a_p0_tape, .int (Int32.ofInt i_p0_taped), .int (Int32.ofInt z2), .int (Int32.ofInt z4), .int (Int32.ofInt z12), .int (Int32.ofInt i_p0_value), .int (Int32.ofInt z15), .int (Int32.ofInt z16), .ref a_p0_places, .ref a_p0_stirred, .ref a_p0_ways, .ref a_p0_waysThen, .ref a_p0_stays, .ref a_p0_fewest, .ref a_p0_bowls, .ref a_p0_has, .ref a_p0_goesOn, .ref a_p0_isThere, .ref a_p0_isThereThen, .ref a_p0_bestRow, .ref a_p0_lanes, .ref a_p0_sizes, .ref a_p0_cells, .int (Int32.ofInt i_p0_torn)])), (a_p0_tape, .inl (G 1, 320, .inl (zA v_p0_tape)))]) (va_runV (As := [.int (Int32.ofInt z13), .int (Int32.ofInt (1 : Int))]) (rest := []) ⟨hx, hb, hml, hown, hts⟩ (c_X12_needs (l := l) (D := D) (G := G) (sz := H.size) (a_p0 := a_p0) (a_p0_st := a_p0_st) (a_p0_isKept := a_p0_isKept) (a_p0_brings := a_p0_brings) (a_p0_need := a_p0_need) (a_p0_draft := a_p0_draft) (a_p0_dStir := a_p0_dStir) (a_p0_dNeed := a_p0_dNeed) (a_p0_tape := a_p0_tape) (a_p0_places := a_p0_places) (a_p0_stirred := a_p0_stirred) (a_p0_ways := a_p0_ways) (a_p0_waysThen := a_p0_waysThen) (a_p0_stays := a_p0_stays) (a_p0_fewest := a_p0_fewest) (a_p0_bowls := a_p0_bowls) (a_p0_has := a_p0_has) (a_p0_goesOn := a_p0_goesOn) (a_p0_isThere := a_p0_isThere) (a_p0_isThereThen := a_p0_isThereThen) (a_p0_bestRow := a_p0_bestRow) (a_p0_lanes := a_p0_lanes) (a_p0_sizes := a_p0_sizes) (a_p0_cells := a_p0_cells) (i_p0_seats := i_p0_seats) (i_p0_stirs := i_p0_stirs) (i_p0_dSeats := i_p0_dSeats) (i_p0_dStirs := i_p0_dStirs) (i_p0_told := i_p0_told) (i_p0_highest := i_p0_highest) (i_p0_taped := i_p0_taped) (i_p0_pos := z2) (i_p0_from := z4) (i_p0_sort := z12) (i_p0_value := i_p0_value) (i_p0_fault := i_p0_fault) (i_p0_wrongAt := i_p0_wrongAt) (i_p0_torn := i_p0_torn) (x1 := z13) (x2 := (1 : Int)) (o_i_p0_fault := z15) (o_i_p0_wrongAt := z16) (hf := hcall)) (cwV 2 hts gX12_nextToken_X12_needs rfl rfl rfl hdV_yX12_needs_RX12 ⟨Nat.le_of_ble_eq_true rfl, Nat.le_of_ble_eq_true rfl⟩) (preG_V (ci := 12) (q := (RX12, TX12, 37)) (hP.sub [0] rfl) (hD.sub [0] rfl rfl) hK rfl rfl) rfl rfl hl.1 rfl (lv_room (Nat.le_of_ble_eq_true rfl)) dX12_nextToken_261 ⟨Nat.le_of_ble_eq_true rfl, Nat.le_of_ble_eq_true rfl⟩) hP hD hS hA [0] rfl rfl rfl (fun H locs hP hD hS => ?_)
              clear hcall
              refine lv_aload_n hx hb dX12_nextToken_264 rfl (lv_at hl 0 rfl) ?_
              refine lv_dup hx hb dX12_nextToken_265 rfl ?_
              refine va_get (D := D) (ci := 12) (v := .int (Int32.ofInt z2)) (C := RX12) (T := TX12) (N := 37) hx hb hts inX12_nextToken_X12 hown hK hP 0 rfl rfl 15 (by decide) (hts _ mwX12_nextToken_2) (fun _ h9 => h9) rfl dX12_nextToken_266 ?_
              refine lv_iconst (v := Int32.ofInt (1 : Int)) hx hb dX12_nextToken_269 (by decide) ?_
              refine lv_iadd hx hb dX12_nextToken_270 (z_ci (Int32.ofInt_add z2 (1 : Int)) ?_)
              refine z_topi (fun z17 ez => ?_)
              replace hf := bnd_s hf ez
              clear ez
              refine va_put (D := D) (ci := 12) (v := .int (Int32.ofInt z17)) (ty := .int) (C := RX12) (T := TX12) (N := 37) hx hb hts inX12_nextToken_X12 tyX12 tyX12_ok nmX12 hown hK hP hD hS 0 rfl rfl 15 (by decide) (hts _ mwX12_nextToken_2) (fun _ h9 => h9) rfl (by decide +kernel) rfl rfl (Nat.le_of_ble_eq_true rfl) dX12_nextToken_271 (fun H locs hP hD hS => ?_)
              have hP : va_P D vwCl [(a_p0, .inr (12, [.ref a_p0_st, .ref a_p0_isKept, .int (Int32.ofInt i_p0_seats), .int (Int32.ofInt i_p0_stirs), .ref a_p0_brings, .ref a_p0_need, .ref a_p0_draft, .int (Int32.ofInt i_p0_dSeats), .int (Int32.ofInt i_p0_dStirs), .ref a_p0_dStir, .ref a_p0_dNeed, .int (Int32.ofInt i_p0_told), .int (Int32.ofInt i_p0_highest), .ref a_p0_tape, .int (Int32.ofInt i_p0_taped), .int (Int32.ofInt z17), .int (Int32.ofInt z4), .int (Int32.ofInt z12), .int (Int32.ofInt i_p0_value), .int (Int32.ofInt z15), .int (Int32.ofInt z16), .ref a_p0_places, .ref a_p0_stirred, .ref a_p0_ways, .ref a_p0_waysThen, .ref a_p0_stays, .ref a_p0_fewest, .ref a_p0_bowls, .ref a_p0_has, .ref a_p0_goesOn, .ref a_p0_isThere, .ref a_p0_isThereThen, .ref a_p0_bestRow, .ref a_p0_lanes, .ref a_p0_sizes, .ref a_p0_cells, .int (Int32.ofInt i_p0_torn)])), (a_p0_tape, .inl (G 1, 320, .inl (zA v_p0_tape)))] H := hP
              have hD : va_D A [(a_p0, .inr (12, [.ref a_p0_st, .ref a_p0_isKept, .int (Int32.ofInt i_p0_seats), .int (Int32.ofInt i_p0_stirs), .ref a_p0_brings, .ref a_p0_need, .ref a_p0_draft, .int (Int32.ofInt i_p0_dSeats), .int (Int32.ofInt i_p0_dStirs), .ref a_p0_dStir, .ref a_p0_dNeed, .int (Int32.ofInt i_p0_told), .int (Int32.ofInt i_p0_highest), .ref a_p0_tape, .int (Int32.ofInt i_p0_taped), .int (Int32.ofInt z17), .int (Int32.ofInt z4), .int (Int32.ofInt z12), .int (Int32.ofInt i_p0_value), .int (Int32.ofInt z15), .int (Int32.ofInt z16), .ref a_p0_places, .ref a_p0_stirred, .ref a_p0_ways, .ref a_p0_waysThen, .ref a_p0_stays, .ref a_p0_fewest, .ref a_p0_bowls, .ref a_p0_has, .ref a_p0_goesOn, .ref a_p0_isThere, .ref a_p0_isThereThen, .ref a_p0_bestRow, .ref a_p0_lanes, .ref a_p0_sizes, .ref a_p0_cells, .int (Int32.ofInt i_p0_torn)])), (a_p0_tape, .inl (G 1, 320, .inl (zA v_p0_tape)))] := hD
              obtain ⟨rfl, rfl, rfl, rfl, rfl, rfl⟩ := ou6 hf
              rw [hQ]
              exact W.vret hx hb hr (fun t ht hW => ⟨⟨(), rfl, trivial, by rw [ht]; exact hP, va_K.moved hW.alike hK, hD⟩, hS.F ht⟩) hS.2.2 dX12_nextToken_274
            refine lv_icmp_ne (tgt := 259) hx hb dX12_nextToken_252 (by decide) (fun cc => ?_) (fun cc => ?_)
            ·
              replace hf := ite_f (fun h9 => cc ((z_eq hr6 (by decide)).mpr h9)) hf
              clear cc
              refine lv_iconst (v := Int32.ofInt (0 : Int)) hx hb dX12_nextToken_259 (by decide) ?_
              exact hJ14 _ _ _ _ (lv_sub hl [1] rfl) hP hD hS hf
            ·
              replace hf := ite_t ((z_eq hr6 (by decide)).mp cc) hf
              clear cc
              refine lv_iconst (v := Int32.ofInt (1 : Int)) hx hb dX12_nextToken_255 (by decide) ?_
              refine lv_goto (tgt := 260) hx hb dX12_nextToken_256 (by decide) ?_
              exact hJ14 _ _ _ _ (lv_sub hl [1] rfl) hP hD hS hf
          ·
            replace hf := ite_f (fun h9 => cc ((z_eq0 hr10).mpr h9)) hf
            clear cc
            refine lv_aload_n hx hb dX12_nextToken_130 rfl (lv_at hl 1 rfl) ?_
            refine lv_iconst (v := Int32.ofInt (2 : Int)) hx hb dX12_nextToken_131 (by decide) ?_
            refine z_topi (fun z18 ez => ?_)
            replace hf := bnd_s hf ez
            clear ez
            refine va_put (D := D) (ci := 12) (v := .int (Int32.ofInt z18)) (ty := .int) (C := RX12) (T := TX12) (N := 37) hx hb hts inX12_nextToken_X12 tyX12 tyX12_ok nmX12 hown hK hP hD hS 0 rfl rfl 17 (by decide) (hts _ mwX12_nextToken_8) (fun _ h9 => h9) rfl (by decide +kernel) rfl rfl (Nat.le_of_ble_eq_true rfl) dX12_nextToken_132 (fun H locs hP hD hS => ?_)
            have hP : va_P D vwCl [(a_p0, .inr (12, [.ref a_p0_st, .ref a_p0_isKept, .int (Int32.ofInt i_p0_seats), .int (Int32.ofInt i_p0_stirs), .ref a_p0_brings, .ref a_p0_need, .ref a_p0_draft, .int (Int32.ofInt i_p0_dSeats), .int (Int32.ofInt i_p0_dStirs), .ref a_p0_dStir, .ref a_p0_dNeed, .int (Int32.ofInt i_p0_told), .int (Int32.ofInt i_p0_highest), .ref a_p0_tape, .int (Int32.ofInt i_p0_taped), .int (Int32.ofInt z2), .int (Int32.ofInt z4), .int (Int32.ofInt z18), .int (Int32.ofInt i_p0_value), .int (Int32.ofInt i_p0_fault), .int (Int32.ofInt i_p0_wrongAt), .ref a_p0_places, .ref a_p0_stirred, .ref a_p0_ways, .ref a_p0_waysThen, .ref a_p0_stays, .ref a_p0_fewest, .ref a_p0_bowls, .ref a_p0_has, .ref a_p0_goesOn, .ref a_p0_isThere, .ref a_p0_isThereThen, .ref a_p0_bestRow, .ref a_p0_lanes, .ref a_p0_sizes, .ref a_p0_cells, .int (Int32.ofInt i_p0_torn)])), (a_p0_tape, .inl (G 1, 320, .inl (zA v_p0_tape)))] H := hP
            have hD : va_D A [(a_p0, .inr (12, [.ref a_p0_st, .ref a_p0_isKept, .int (Int32.ofInt i_p0_seats), .int (Int32.ofInt i_p0_stirs), .ref a_p0_brings, .ref a_p0_need, .ref a_p0_draft, .int (Int32.ofInt i_p0_dSeats), .int (Int32.ofInt i_p0_dStirs), .ref a_p0_dStir, .ref a_p0_dNeed, .int (Int32.ofInt i_p0_told), .int (Int32.ofInt i_p0_highest), .ref a_p0_tape, .int (Int32.ofInt i_p0_taped), .int (Int32.ofInt z2), .int (Int32.ofInt z4), .int (Int32.ofInt z18), .int (Int32.ofInt i_p0_value), .int (Int32.ofInt i_p0_fault), .int (Int32.ofInt i_p0_wrongAt), .ref a_p0_places, .ref a_p0_stirred, .ref a_p0_ways, .ref a_p0_waysThen, .ref a_p0_stays, .ref a_p0_fewest, .ref a_p0_bowls, .ref a_p0_has, .ref a_p0_goesOn, .ref a_p0_isThere, .ref a_p0_isThereThen, .ref a_p0_bestRow, .ref a_p0_lanes, .ref a_p0_sizes, .ref a_p0_cells, .int (Int32.ofInt i_p0_torn)])), (a_p0_tape, .inl (G 1, 320, .inl (zA v_p0_tape)))] := hD
            refine lv_aload_n hx hb dX12_nextToken_135 rfl (lv_at hl 1 rfl) ?_
            refine lv_iconst (v := Int32.ofInt (0 : Int)) hx hb dX12_nextToken_136 (by decide) ?_
            refine z_topi (fun z19 ez => ?_)
            replace hf := bnd_s hf ez
            clear ez
            refine va_put (D := D) (ci := 12) (v := .int (Int32.ofInt z19)) (ty := .int) (C := RX12) (T := TX12) (N := 37) hx hb hts inX12_nextToken_X12 tyX12 tyX12_ok nmX12 hown hK hP hD hS 0 rfl rfl 18 (by decide) (hts _ mwX12_nextToken_10) (fun _ h9 => h9) rfl (by decide +kernel) rfl rfl (Nat.le_of_ble_eq_true rfl) dX12_nextToken_137 (fun H locs hP hD hS => ?_)
            have hP : va_P D vwCl [(a_p0, .inr (12, [.ref a_p0_st, .ref a_p0_isKept, .int (Int32.ofInt i_p0_seats), .int (Int32.ofInt i_p0_stirs), .ref a_p0_brings, .ref a_p0_need, .ref a_p0_draft, .int (Int32.ofInt i_p0_dSeats), .int (Int32.ofInt i_p0_dStirs), .ref a_p0_dStir, .ref a_p0_dNeed, .int (Int32.ofInt i_p0_told), .int (Int32.ofInt i_p0_highest), .ref a_p0_tape, .int (Int32.ofInt i_p0_taped), .int (Int32.ofInt z2), .int (Int32.ofInt z4), .int (Int32.ofInt z18), .int (Int32.ofInt z19), .int (Int32.ofInt i_p0_fault), .int (Int32.ofInt i_p0_wrongAt), .ref a_p0_places, .ref a_p0_stirred, .ref a_p0_ways, .ref a_p0_waysThen, .ref a_p0_stays, .ref a_p0_fewest, .ref a_p0_bowls, .ref a_p0_has, .ref a_p0_goesOn, .ref a_p0_isThere, .ref a_p0_isThereThen, .ref a_p0_bestRow, .ref a_p0_lanes, .ref a_p0_sizes, .ref a_p0_cells, .int (Int32.ofInt i_p0_torn)])), (a_p0_tape, .inl (G 1, 320, .inl (zA v_p0_tape)))] H := hP
            have hD : va_D A [(a_p0, .inr (12, [.ref a_p0_st, .ref a_p0_isKept, .int (Int32.ofInt i_p0_seats), .int (Int32.ofInt i_p0_stirs), .ref a_p0_brings, .ref a_p0_need, .ref a_p0_draft, .int (Int32.ofInt i_p0_dSeats), .int (Int32.ofInt i_p0_dStirs), .ref a_p0_dStir, .ref a_p0_dNeed, .int (Int32.ofInt i_p0_told), .int (Int32.ofInt i_p0_highest), .ref a_p0_tape, .int (Int32.ofInt i_p0_taped), .int (Int32.ofInt z2), .int (Int32.ofInt z4), .int (Int32.ofInt z18), .int (Int32.ofInt z19), .int (Int32.ofInt i_p0_fault), .int (Int32.ofInt i_p0_wrongAt), .ref a_p0_places, .ref a_p0_stirred, .ref a_p0_ways, .ref a_p0_waysThen, .ref a_p0_stays, .ref a_p0_fewest, .ref a_p0_bowls, .ref a_p0_has, .ref a_p0_goesOn, .ref a_p0_isThere, .ref a_p0_isThereThen, .ref a_p0_bestRow, .ref a_p0_lanes, .ref a_p0_sizes, .ref a_p0_cells, .int (Int32.ofInt i_p0_torn)])), (a_p0_tape, .inl (G 1, 320, .inl (zA v_p0_tape)))] := hD
            have hq := jn_i hf
            clear hf
            obtain ⟨J22, eJ22, hf⟩ := hq
            have hJ22 : ∀ (z20 : Int) (z21 : Int) (ls : Array Slot) (H : Heap) (locs : List Loc), lv_has ls 2 [(0, .ref a_p0)] → va_P D vwCl [(a_p0, .inr (12, [.ref a_p0_st, .ref a_p0_isKept, .int (Int32.ofInt i_p0_seats), .int (Int32.ofInt i_p0_stirs), .ref a_p0_brings, .ref a_p0_need, .ref a_p0_draft, .int (Int32.ofInt i_p0_dSeats), .int (Int32.ofInt i_p0_dStirs), .ref a_p0_dStir, .ref a_p0_dNeed, .int (Int32.ofInt i_p0_told), .int (Int32.ofInt i_p0_highest), .ref a_p0_tape, .int (Int32.ofInt i_p0_taped), .int (Int32.ofInt z20), .int (Int32.ofInt z4), .int (Int32.ofInt z18), .int (Int32.ofInt z21), .int (Int32.ofInt i_p0_fault), .int (Int32.ofInt i_p0_wrongAt), .ref a_p0_places, .ref a_p0_stirred, .ref a_p0_ways, .ref a_p0_waysThen, .ref a_p0_stays, .ref a_p0_fewest, .ref a_p0_bowls, .ref a_p0_has, .ref a_p0_goesOn, .ref a_p0_isThere, .ref a_p0_isThereThen, .ref a_p0_bestRow, .ref a_p0_lanes, .ref a_p0_sizes, .ref a_p0_cells, .int (Int32.ofInt i_p0_torn)])), (a_p0_tape, .inl (G 1, 320, .inl (zA v_p0_tape)))] H → va_D A [(a_p0, .inr (12, [.ref a_p0_st, .ref a_p0_isKept, .int (Int32.ofInt i_p0_seats), .int (Int32.ofInt i_p0_stirs), .ref a_p0_brings, .ref a_p0_need, .ref a_p0_draft, .int (Int32.ofInt i_p0_dSeats), .int (Int32.ofInt i_p0_dStirs), .ref a_p0_dStir, .ref a_p0_dNeed, .int (Int32.ofInt i_p0_told), .int (Int32.ofInt i_p0_highest), .ref a_p0_tape, .int (Int32.ofInt i_p0_taped), .int (Int32.ofInt z20), .int (Int32.ofInt z4), .int (Int32.ofInt z18), .int (Int32.ofInt z21), .int (Int32.ofInt i_p0_fault), .int (Int32.ofInt i_p0_wrongAt), .ref a_p0_places, .ref a_p0_stirred, .ref a_p0_ways, .ref a_p0_waysThen, .ref a_p0_stays, .ref a_p0_fewest, .ref a_p0_bowls, .ref a_p0_has, .ref a_p0_goesOn, .ref a_p0_isThere, .ref a_p0_isThereThen, .ref a_p0_bestRow, .ref a_p0_lanes, .ref a_p0_sizes, .ref a_p0_cells, .int (Int32.ofInt i_p0_torn)])), (a_p0_tape, .inl (G 1, 320, .inl (zA v_p0_tape)))] → va_S A s.heap H locs → J22 z20 z21 = some (o_i_p0_pos, o_i_p0_from, o_i_p0_sort, o_i_p0_value, o_i_p0_fault, o_i_p0_wrongAt) → W p l e rm_X12_nextToken s m ([.ref a_p0] : List Value).toArray below meth c H locs 0 0 Q (F0 m 217 ls []) := by
              clear hf hl hP hD hS
              intro z20 z21 ls H locs hl hP hD hS hf
              replace hf := jn2_s eJ22 hf
              refine lv_aload_n hx hb dX12_nextToken_217 rfl (lv_at hl 0 rfl) ?_
              refine lv_aload_n hx hb dX12_nextToken_218 rfl (lv_at hl 0 rfl) ?_
              refine va_get (D := D) (ci := 12) (v := .int (Int32.ofInt z20)) (C := RX12) (T := TX12) (N := 37) hx hb hts inX12_nextToken_X12 hown hK hP 0 rfl rfl 15 (by decide) (hts _ mwX12_nextToken_2) (fun _ h9 => h9) rfl dX12_nextToken_219 ?_
              refine lv_aload_n hx hb dX12_nextToken_222 rfl (lv_at hl 0 rfl) ?_
              refine va_get (D := D) (ci := 12) (v := .int (Int32.ofInt z4)) (C := RX12) (T := TX12) (N := 37) hx hb hts inX12_nextToken_X12 hown hK hP 0 rfl rfl 16 (by decide) (hts _ mwX12_nextToken_3) (fun _ h9 => h9) rfl dX12_nextToken_223 ?_
              refine lv_isub hx hb dX12_nextToken_226 (z_ci (Int32.ofInt_sub z20 z4) ?_)
              refine lv_iconst (v := Int32.ofInt (2 : Int)) hx hb dX12_nextToken_227 (by decide) ?_
              have hr22 := ck_c hf
              replace hf := ck_r hf
              refine lv_icmp_gt (tgt := 235) hx hb dX12_nextToken_228 (by decide) (fun cc => ?_) (fun cc => ?_)
              ·
                replace hf := ite_t ((z_lt (by decide) hr22).mp cc) hf
                clear cc
                refine lv_iconst (v := Int32.ofInt (0 : Int)) hx hb dX12_nextToken_235 (by decide) ?_
                refine lv_iconst (v := Int32.ofInt (1 : Int)) hx hb dX12_nextToken_236 (by decide) ?_
                have hq := bd2_s hf
                clear hf
                obtain ⟨z24, z25, hcall, hf⟩ := hq
                refine gsV (ws' := [(a_p0, .inr (12, [.ref a_p0_st, .ref a_p0_isKept, .int (Int32.ofInt i_p0_seats), .int (Int32.ofInt i_p0_stirs), .ref a_p0_brings, .ref a_p0_need, .ref a_p0_draft, .int (Int32.ofInt i_p0_dSeats), .int (Int32.ofInt i_p0_dStirs), .ref a_p0_dStir, .ref a_p0_dNeed, .int (Int32.ofInt i_p0_told), .int (Int32.ofInt i_p0_highest), .ref a_p0_tape, .int (Int32.ofInt i_p0_taped), .int (Int32.ofInt z20), .int (Int32.ofInt z4), .int (Int32.ofInt z18), .int (Int32.ofInt z21), .int (Int32.ofInt z24), .int (Int32.ofInt z25), .ref a_p0_places, .ref a_p0_stirred, .ref a_p0_ways, .ref a_p0_waysThen, .ref a_p0_stays, .ref a_p0_fewest, .ref a_p0_bowls, .ref a_p0_has, .ref a_p0_goesOn, .ref a_p0_isThere, .ref a_p0_isThereThen, .ref a_p0_bestRow, .ref a_p0_lanes, .ref a_p0_sizes, .ref a_p0_cells, .int (Int32.ofInt i_p0_torn)])), (a_p0_tape, .inl (G 1, 320, .inl (zA v_p0_tape)))]) (va_runV (As := [.int (Int32.ofInt (0 : Int)), .int (Int32.ofInt (1 : Int))]) (rest := []) ⟨hx, hb, hml, hown, hts⟩ (c_X12_needs (l := l) (D := D) (G := G) (sz := H.size) (a_p0 := a_p0) (a_p0_st := a_p0_st) (a_p0_isKept := a_p0_isKept) (a_p0_brings := a_p0_brings) (a_p0_need := a_p0_need) (a_p0_draft := a_p0_draft) (a_p0_dStir := a_p0_dStir) (a_p0_dNeed := a_p0_dNeed) (a_p0_tape := a_p0_tape) (a_p0_places := a_p0_places) (a_p0_stirred := a_p0_stirred) (a_p0_ways := a_p0_ways) (a_p0_waysThen := a_p0_waysThen) (a_p0_stays := a_p0_stays) (a_p0_fewest := a_p0_fewest) (a_p0_bowls := a_p0_bowls) (a_p0_has := a_p0_has) (a_p0_goesOn := a_p0_goesOn) (a_p0_isThere := a_p0_isThere) (a_p0_isThereThen := a_p0_isThereThen) (a_p0_bestRow := a_p0_bestRow) (a_p0_lanes := a_p0_lanes) (a_p0_sizes := a_p0_sizes) (a_p0_cells := a_p0_cells) (i_p0_seats := i_p0_seats) (i_p0_stirs := i_p0_stirs) (i_p0_dSeats := i_p0_dSeats) (i_p0_dStirs := i_p0_dStirs) (i_p0_told := i_p0_told) (i_p0_highest := i_p0_highest) (i_p0_taped := i_p0_taped) (i_p0_pos := z20) (i_p0_from := z4) (i_p0_sort := z18) (i_p0_value := z21) (i_p0_fault := i_p0_fault) (i_p0_wrongAt := i_p0_wrongAt) (i_p0_torn := i_p0_torn) (x1 := (0 : Int)) (x2 := (1 : Int)) (o_i_p0_fault := z24) (o_i_p0_wrongAt := z25) (hf := hcall)) (cwV 2 hts gX12_nextToken_X12_needs rfl rfl rfl hdV_yX12_needs_RX12 ⟨Nat.le_of_ble_eq_true rfl, Nat.le_of_ble_eq_true rfl⟩) (preG_V (ci := 12) (q := (RX12, TX12, 37)) (hP.sub [0] rfl) (hD.sub [0] rfl rfl) hK rfl rfl) rfl rfl hl.1 rfl (lv_room (Nat.le_of_ble_eq_true rfl)) dX12_nextToken_237 ⟨Nat.le_of_ble_eq_true rfl, Nat.le_of_ble_eq_true rfl⟩) hP hD hS hA [0] rfl rfl rfl (fun H locs hP hD hS => ?_)
                clear hcall
                refine lv_goto (tgt := 274) hx hb dX12_nextToken_240 (by decide) ?_
                obtain ⟨rfl, rfl, rfl, rfl, rfl, rfl⟩ := ou6 hf
                rw [hQ]
                exact W.vret hx hb hr (fun t ht hW => ⟨⟨(), rfl, trivial, by rw [ht]; exact hP, va_K.moved hW.alike hK, hD⟩, hS.F ht⟩) hS.2.2 dX12_nextToken_274
              ·
                replace hf := ite_f (fun h9 => cc ((z_lt (by decide) hr22).mpr h9)) hf
                clear cc
                refine lv_iconst (v := Int32.ofInt (1 : Int)) hx hb dX12_nextToken_231 (by decide) ?_
                refine lv_goto (tgt := 236) hx hb dX12_nextToken_232 (by decide) ?_
                refine lv_iconst (v := Int32.ofInt (1 : Int)) hx hb dX12_nextToken_236 (by decide) ?_
                have hq := bd2_s hf
                clear hf
                obtain ⟨z26, z27, hcall, hf⟩ := hq
                refine gsV (ws' := [(a_p0, .inr (12, [.ref a_p0_st, .ref a_p0_isKept, .int (Int32.ofInt i_p0_seats), .int (Int32.ofInt i_p0_stirs), .ref a_p0_brings, .ref a_p0_need, .ref a_p0_draft, .int (Int32.ofInt i_p0_dSeats), .int (Int32.ofInt i_p0_dStirs), .ref a_p0_dStir, .ref a_p0_dNeed, .int (Int32.ofInt i_p0_told), .int (Int32.ofInt i_p0_highest), .ref a_p0_tape, .int (Int32.ofInt i_p0_taped), .int (Int32.ofInt z20), .int (Int32.ofInt z4), .int (Int32.ofInt z18), .int (Int32.ofInt z21), .int (Int32.ofInt z26), .int (Int32.ofInt z27), .ref a_p0_places, .ref a_p0_stirred, .ref a_p0_ways, .ref a_p0_waysThen, .ref a_p0_stays, .ref a_p0_fewest, .ref a_p0_bowls, .ref a_p0_has, .ref a_p0_goesOn, .ref a_p0_isThere, .ref a_p0_isThereThen, .ref a_p0_bestRow, .ref a_p0_lanes, .ref a_p0_sizes, .ref a_p0_cells, .int (Int32.ofInt i_p0_torn)])), (a_p0_tape, .inl (G 1, 320, .inl (zA v_p0_tape)))]) (va_runV (As := [.int (Int32.ofInt (1 : Int)), .int (Int32.ofInt (1 : Int))]) (rest := []) ⟨hx, hb, hml, hown, hts⟩ (c_X12_needs (l := l) (D := D) (G := G) (sz := H.size) (a_p0 := a_p0) (a_p0_st := a_p0_st) (a_p0_isKept := a_p0_isKept) (a_p0_brings := a_p0_brings) (a_p0_need := a_p0_need) (a_p0_draft := a_p0_draft) (a_p0_dStir := a_p0_dStir) (a_p0_dNeed := a_p0_dNeed) (a_p0_tape := a_p0_tape) (a_p0_places := a_p0_places) (a_p0_stirred := a_p0_stirred) (a_p0_ways := a_p0_ways) (a_p0_waysThen := a_p0_waysThen) (a_p0_stays := a_p0_stays) (a_p0_fewest := a_p0_fewest) (a_p0_bowls := a_p0_bowls) (a_p0_has := a_p0_has) (a_p0_goesOn := a_p0_goesOn) (a_p0_isThere := a_p0_isThere) (a_p0_isThereThen := a_p0_isThereThen) (a_p0_bestRow := a_p0_bestRow) (a_p0_lanes := a_p0_lanes) (a_p0_sizes := a_p0_sizes) (a_p0_cells := a_p0_cells) (i_p0_seats := i_p0_seats) (i_p0_stirs := i_p0_stirs) (i_p0_dSeats := i_p0_dSeats) (i_p0_dStirs := i_p0_dStirs) (i_p0_told := i_p0_told) (i_p0_highest := i_p0_highest) (i_p0_taped := i_p0_taped) (i_p0_pos := z20) (i_p0_from := z4) (i_p0_sort := z18) (i_p0_value := z21) (i_p0_fault := i_p0_fault) (i_p0_wrongAt := i_p0_wrongAt) (i_p0_torn := i_p0_torn) (x1 := (1 : Int)) (x2 := (1 : Int)) (o_i_p0_fault := z26) (o_i_p0_wrongAt := z27) (hf := hcall)) (cwV 2 hts gX12_nextToken_X12_needs rfl rfl rfl hdV_yX12_needs_RX12 ⟨Nat.le_of_ble_eq_true rfl, Nat.le_of_ble_eq_true rfl⟩) (preG_V (ci := 12) (q := (RX12, TX12, 37)) (hP.sub [0] rfl) (hD.sub [0] rfl rfl) hK rfl rfl) rfl rfl hl.1 rfl (lv_room (Nat.le_of_ble_eq_true rfl)) dX12_nextToken_237 ⟨Nat.le_of_ble_eq_true rfl, Nat.le_of_ble_eq_true rfl⟩) hP hD hS hA [0] rfl rfl rfl (fun H locs hP hD hS => ?_)
                clear hcall
                refine lv_goto (tgt := 274) hx hb dX12_nextToken_240 (by decide) ?_
                obtain ⟨rfl, rfl, rfl, rfl, rfl, rfl⟩ := ou6 hf
                rw [hQ]
                exact W.vret hx hb hr (fun t ht hW => ⟨⟨(), rfl, trivial, by rw [ht]; exact hP, va_K.moved hW.alike hK, hD⟩, hS.F ht⟩) hS.2.2 dX12_nextToken_274
            have hq := lq2_i hf
            clear hf
            obtain ⟨B30, eB30, NB30, hf⟩ := hq
            have hB30 : ∀ (n : Nat) (z28 : Int) (z29 : Int) (ls : Array Slot) (H : Heap) (locs : List Loc), lv_has ls 2 [(0, .ref a_p0)] → va_P D vwCl [(a_p0, .inr (12, [.ref a_p0_st, .ref a_p0_isKept, .int (Int32.ofInt i_p0_seats), .int (Int32.ofInt i_p0_stirs), .ref a_p0_brings, .ref a_p0_need, .ref a_p0_draft, .int (Int32.ofInt i_p0_dSeats), .int (Int32.ofInt i_p0_dStirs), .ref a_p0_dStir, .ref a_p0_dNeed, .int (Int32.ofInt i_p0_told), .int (Int32.ofInt i_p0_highest), .ref a_p0_tape, .int (Int32.ofInt i_p0_taped), .int (Int32.ofInt z28), .int (Int32.ofInt z4), .int (Int32.ofInt z18), .int (Int32.ofInt z29), .int (Int32.ofInt i_p0_fault), .int (Int32.ofInt i_p0_wrongAt), .ref a_p0_places, .ref a_p0_stirred, .ref a_p0_ways, .ref a_p0_waysThen, .ref a_p0_stays, .ref a_p0_fewest, .ref a_p0_bowls, .ref a_p0_has, .ref a_p0_goesOn, .ref a_p0_isThere, .ref a_p0_isThereThen, .ref a_p0_bestRow, .ref a_p0_lanes, .ref a_p0_sizes, .ref a_p0_cells, .int (Int32.ofInt i_p0_torn)])), (a_p0_tape, .inl (G 1, 320, .inl (zA v_p0_tape)))] H → va_D A [(a_p0, .inr (12, [.ref a_p0_st, .ref a_p0_isKept, .int (Int32.ofInt i_p0_seats), .int (Int32.ofInt i_p0_stirs), .ref a_p0_brings, .ref a_p0_need, .ref a_p0_draft, .int (Int32.ofInt i_p0_dSeats), .int (Int32.ofInt i_p0_dStirs), .ref a_p0_dStir, .ref a_p0_dNeed, .int (Int32.ofInt i_p0_told), .int (Int32.ofInt i_p0_highest), .ref a_p0_tape, .int (Int32.ofInt i_p0_taped), .int (Int32.ofInt z28), .int (Int32.ofInt z4), .int (Int32.ofInt z18), .int (Int32.ofInt z29), .int (Int32.ofInt i_p0_fault), .int (Int32.ofInt i_p0_wrongAt), .ref a_p0_places, .ref a_p0_stirred, .ref a_p0_ways, .ref a_p0_waysThen, .ref a_p0_stays, .ref a_p0_fewest, .ref a_p0_bowls, .ref a_p0_has, .ref a_p0_goesOn, .ref a_p0_isThere, .ref a_p0_isThereThen, .ref a_p0_bestRow, .ref a_p0_lanes, .ref a_p0_sizes, .ref a_p0_cells, .int (Int32.ofInt i_p0_torn)])), (a_p0_tape, .inl (G 1, 320, .inl (zA v_p0_tape)))] → va_S A s.heap H locs → lq2 B30 n z28 z29 = some (o_i_p0_pos, o_i_p0_from, o_i_p0_sort, o_i_p0_value, o_i_p0_fault, o_i_p0_wrongAt) → W p l e rm_X12_nextToken s m ([.ref a_p0] : List Value).toArray below meth c H locs 0 0 Q (F0 m 140 ls []) := by
              clear hf hl hP hD hS
              intro n
              induction n with
              | zero =>
                intro z28 z29 ls H locs hl hP hD hS hf
                exact (lq2_0 hf).elim
              | succ n ih140 =>
                intro z28 z29 ls H locs hl hP hD hS hf
                replace hf := lq2_s eB30 hf
                unfold B_X12_nextToken_140 at hf
                refine lv_aload_n hx hb dX12_nextToken_140 rfl (lv_at hl 0 rfl) ?_
                refine lv_aload_n hx hb dX12_nextToken_141 rfl (lv_at hl 0 rfl) ?_
                refine va_get (D := D) (ci := 12) (v := .int (Int32.ofInt z28)) (C := RX12) (T := TX12) (N := 37) hx hb hts inX12_nextToken_X12 hown hK hP 0 rfl rfl 15 (by decide) (hts _ mwX12_nextToken_2) (fun _ h9 => h9) rfl dX12_nextToken_142 ?_
                have hq := bd1_s hf
                clear hf
                obtain ⟨z31, hcall, hf⟩ := hq
                refine gnI (va_runV (As := [.int (Int32.ofInt z28)]) (rest := []) ⟨hx, hb, hml, hown, hts⟩ (c_X12_look (l := l) (D := D) (G := G) (sz := H.size) (a_p0 := a_p0) (a_p0_st := a_p0_st) (a_p0_isKept := a_p0_isKept) (a_p0_brings := a_p0_brings) (a_p0_need := a_p0_need) (a_p0_draft := a_p0_draft) (a_p0_dStir := a_p0_dStir) (a_p0_dNeed := a_p0_dNeed) (a_p0_tape := a_p0_tape) (a_p0_places := a_p0_places) (a_p0_stirred := a_p0_stirred) (a_p0_ways := a_p0_ways) (a_p0_waysThen := a_p0_waysThen) (a_p0_stays := a_p0_stays) (a_p0_fewest := a_p0_fewest) (a_p0_bowls := a_p0_bowls) (a_p0_has := a_p0_has) (a_p0_goesOn := a_p0_goesOn) (a_p0_isThere := a_p0_isThere) (a_p0_isThereThen := a_p0_isThereThen) (a_p0_bestRow := a_p0_bestRow) (a_p0_lanes := a_p0_lanes) (a_p0_sizes := a_p0_sizes) (a_p0_cells := a_p0_cells) (i_p0_seats := i_p0_seats) (i_p0_stirs := i_p0_stirs) (i_p0_dSeats := i_p0_dSeats) (i_p0_dStirs := i_p0_dStirs) (i_p0_told := i_p0_told) (i_p0_highest := i_p0_highest) (i_p0_taped := i_p0_taped) (i_p0_pos := z28) (i_p0_from := z4) (i_p0_sort := z18) (i_p0_value := z29) (i_p0_fault := i_p0_fault) (i_p0_wrongAt := i_p0_wrongAt) (i_p0_torn := i_p0_torn) (v_p0_tape := v_p0_tape) (x1 := z28) (r := z31) (hf := hcall)) (cwV 1 hts gX12_nextToken_X12_look rfl rfl rfl hdV_yX12_look_RX12 ⟨Nat.le_of_ble_eq_true rfl, Nat.le_of_ble_eq_true rfl⟩) (preG_V (ci := 12) (q := (RX12, TX12, 37)) (hP.sub [0, 1] rfl) (hD.sub [0, 1] rfl rfl) hK rfl rfl) rfl rfl hl.1 rfl (lv_room (Nat.le_of_ble_eq_true rfl)) dX12_nextToken_145 ⟨Nat.le_of_ble_eq_true rfl, Nat.le_of_ble_eq_true rfl⟩) hP hD hS hA [0, 1] rfl (fun H locs hP hD hS => ?_)
                clear hcall
                have hr31 := ck_c hf
                replace hf := ck_r hf
                refine lv_i2l (v := Int64.ofInt z31) hx hb dX12_nextToken_148 (z_i2l hr31) ?_
                refine lv_ldc2 (v := (48 : Int64)) hx hb hown (hts _ mwX12_nextToken_6) dX12_nextToken_149 (z_cl (show Int64.ofInt (48 : Int) = _ from by decide) ?_)
                refine lv_ldc2 (v := (57 : Int64)) hx hb hown (hts _ mwX12_nextToken_7) dX12_nextToken_152 (z_cl (show Int64.ofInt (57 : Int) = _ from by decide) ?_)
                have hq := bd1_s hf
                clear hf
                obtain ⟨z33, hcall, hf⟩ := hq
                refine gnI (va_runS (As := [.long (Int64.ofInt z31), .long (Int64.ofInt (48 : Int)), .long (Int64.ofInt (57 : Int))]) (rest := []) ⟨hx, hb, hml, hown, hts⟩ (c_X12_in (l := l) (D := D) (G := G) (sz := H.size) (x0 := z31) (x2 := (48 : Int)) (x4 := (57 : Int)) (r := z33) (hf := hcall)) (va_cwS 3 hts gX12_nextToken_X12_in rfl rfl rfl (by decide +kernel) ⟨Nat.le_of_ble_eq_true rfl, Nat.le_of_ble_eq_true rfl⟩) (preG_S (hP.sub [] rfl) (hD.sub [] rfl rfl) hK) rfl rfl hl.1 rfl (lv_room (Nat.le_of_ble_eq_true rfl)) dX12_nextToken_155 ⟨Nat.le_of_ble_eq_true rfl, Nat.le_of_ble_eq_true rfl⟩) hP hD hS hA [] rfl (fun H locs hP hD hS => ?_)
                clear hcall
                have hr33 := ck_c hf
                replace hf := ck_r hf
                refine lv_if_eq (tgt := 217) hx hb dX12_nextToken_158 (by decide) (fun cc => ?_) (fun cc => ?_)
                ·
                  replace hf := ite_t ((z_eq0 hr33).mp cc) hf
                  clear cc
                  exact hJ22 _ _ _ _ _ (lv_sub hl [0] rfl) hP hD hS hf
                ·
                  replace hf := ite_f (fun h9 => cc ((z_eq0 hr33).mpr h9)) hf
                  clear cc
                  refine lv_aload_n hx hb dX12_nextToken_161 rfl (lv_at hl 0 rfl) ?_
                  refine lv_aload_n hx hb dX12_nextToken_162 rfl (lv_at hl 0 rfl) ?_
                  refine va_get (D := D) (ci := 12) (v := .int (Int32.ofInt z28)) (C := RX12) (T := TX12) (N := 37) hx hb hts inX12_nextToken_X12 hown hK hP 0 rfl rfl 15 (by decide) (hts _ mwX12_nextToken_2) (fun _ h9 => h9) rfl dX12_nextToken_163 ?_
                  refine lv_aload_n hx hb dX12_nextToken_166 rfl (lv_at hl 0 rfl) ?_
                  refine va_get (D := D) (ci := 12) (v := .int (Int32.ofInt z4)) (C := RX12) (T := TX12) (N := 37) hx hb hts inX12_nextToken_X12 hown hK hP 0 rfl rfl 16 (by decide) (hts _ mwX12_nextToken_3) (fun _ h9 => h9) rfl dX12_nextToken_167 ?_
                  refine lv_isub hx hb dX12_nextToken_170 (z_ci (Int32.ofInt_sub z28 z4) ?_)
                  refine lv_iconst (v := Int32.ofInt (2 : Int)) hx hb dX12_nextToken_171 (by decide) ?_
                  have hr34 := ck_c hf
                  replace hf := ck_r hf
                  have hq := jn_i hf
                  clear hf
                  obtain ⟨J37, eJ37, hf⟩ := hq
                  have hJ37 : ∀ (z36 : Int) (ls : Array Slot) (H : Heap) (locs : List Loc), lv_has ls 2 [(0, .ref a_p0)] → va_P D vwCl [(a_p0, .inr (12, [.ref a_p0_st, .ref a_p0_isKept, .int (Int32.ofInt i_p0_seats), .int (Int32.ofInt i_p0_stirs), .ref a_p0_brings, .ref a_p0_need, .ref a_p0_draft, .int (Int32.ofInt i_p0_dSeats), .int (Int32.ofInt i_p0_dStirs), .ref a_p0_dStir, .ref a_p0_dNeed, .int (Int32.ofInt i_p0_told), .int (Int32.ofInt i_p0_highest), .ref a_p0_tape, .int (Int32.ofInt i_p0_taped), .int (Int32.ofInt z28), .int (Int32.ofInt z4), .int (Int32.ofInt z18), .int (Int32.ofInt z29), .int (Int32.ofInt i_p0_fault), .int (Int32.ofInt i_p0_wrongAt), .ref a_p0_places, .ref a_p0_stirred, .ref a_p0_ways, .ref a_p0_waysThen, .ref a_p0_stays, .ref a_p0_fewest, .ref a_p0_bowls, .ref a_p0_has, .ref a_p0_goesOn, .ref a_p0_isThere, .ref a_p0_isThereThen, .ref a_p0_bestRow, .ref a_p0_lanes, .ref a_p0_sizes, .ref a_p0_cells, .int (Int32.ofInt i_p0_torn)])), (a_p0_tape, .inl (G 1, 320, .inl (zA v_p0_tape)))] H → va_D A [(a_p0, .inr (12, [.ref a_p0_st, .ref a_p0_isKept, .int (Int32.ofInt i_p0_seats), .int (Int32.ofInt i_p0_stirs), .ref a_p0_brings, .ref a_p0_need, .ref a_p0_draft, .int (Int32.ofInt i_p0_dSeats), .int (Int32.ofInt i_p0_dStirs), .ref a_p0_dStir, .ref a_p0_dNeed, .int (Int32.ofInt i_p0_told), .int (Int32.ofInt i_p0_highest), .ref a_p0_tape, .int (Int32.ofInt i_p0_taped), .int (Int32.ofInt z28), .int (Int32.ofInt z4), .int (Int32.ofInt z18), .int (Int32.ofInt z29), .int (Int32.ofInt i_p0_fault), .int (Int32.ofInt i_p0_wrongAt), .ref a_p0_places, .ref a_p0_stirred, .ref a_p0_ways, .ref a_p0_waysThen, .ref a_p0_stays, .ref a_p0_fewest, .ref a_p0_bowls, .ref a_p0_has, .ref a_p0_goesOn, .ref a_p0_isThere, .ref a_p0_isThereThen, .ref a_p0_bestRow, .ref a_p0_lanes, .ref a_p0_sizes, .ref a_p0_cells, .int (Int32.ofInt i_p0_torn)])), (a_p0_tape, .inl (G 1, 320, .inl (zA v_p0_tape)))] → va_S A s.heap H locs → J37 z36 = some (o_i_p0_pos, o_i_p0_from, o_i_p0_sort, o_i_p0_value, o_i_p0_fault, o_i_p0_wrongAt) → W p l e rm_X12_nextToken s m ([.ref a_p0] : List Value).toArray below meth c H locs 0 0 Q (F0 m 201 ls [.int (Int32.ofInt z36), .ref a_p0]) := by
                    clear hf hl hP hD hS
                    intro z36 ls H locs hl hP hD hS hf
                    replace hf := jn1_s eJ37 hf
                    refine z_topi (fun z38 ez => ?_)
                    replace hf := bnd_s hf ez
                    clear ez
                    refine va_put (D := D) (ci := 12) (v := .int (Int32.ofInt z38)) (ty := .int) (C := RX12) (T := TX12) (N := 37) hx hb hts inX12_nextToken_X12 tyX12 tyX12_ok nmX12 hown hK hP hD hS 0 rfl rfl 18 (by decide) (hts _ mwX12_nextToken_10) (fun _ h9 => h9) rfl (by decide +kernel) rfl rfl (Nat.le_of_ble_eq_true rfl) dX12_nextToken_201 (fun H locs hP hD hS => ?_)
                    have hP : va_P D vwCl [(a_p0, .inr (12, [.ref a_p0_st, .ref a_p0_isKept, .int (Int32.ofInt i_p0_seats), .int (Int32.ofInt i_p0_stirs), .ref a_p0_brings, .ref a_p0_need, .ref a_p0_draft, .int (Int32.ofInt i_p0_dSeats), .int (Int32.ofInt i_p0_dStirs), .ref a_p0_dStir, .ref a_p0_dNeed, .int (Int32.ofInt i_p0_told), .int (Int32.ofInt i_p0_highest), .ref a_p0_tape, .int (Int32.ofInt i_p0_taped), .int (Int32.ofInt z28), .int (Int32.ofInt z4), .int (Int32.ofInt z18), .int (Int32.ofInt z38), .int (Int32.ofInt i_p0_fault), .int (Int32.ofInt i_p0_wrongAt), .ref a_p0_places, .ref a_p0_stirred, .ref a_p0_ways, .ref a_p0_waysThen, .ref a_p0_stays, .ref a_p0_fewest, .ref a_p0_bowls, .ref a_p0_has, .ref a_p0_goesOn, .ref a_p0_isThere, .ref a_p0_isThereThen, .ref a_p0_bestRow, .ref a_p0_lanes, .ref a_p0_sizes, .ref a_p0_cells, .int (Int32.ofInt i_p0_torn)])), (a_p0_tape, .inl (G 1, 320, .inl (zA v_p0_tape)))] H := hP
                    have hD : va_D A [(a_p0, .inr (12, [.ref a_p0_st, .ref a_p0_isKept, .int (Int32.ofInt i_p0_seats), .int (Int32.ofInt i_p0_stirs), .ref a_p0_brings, .ref a_p0_need, .ref a_p0_draft, .int (Int32.ofInt i_p0_dSeats), .int (Int32.ofInt i_p0_dStirs), .ref a_p0_dStir, .ref a_p0_dNeed, .int (Int32.ofInt i_p0_told), .int (Int32.ofInt i_p0_highest), .ref a_p0_tape, .int (Int32.ofInt i_p0_taped), .int (Int32.ofInt z28), .int (Int32.ofInt z4), .int (Int32.ofInt z18), .int (Int32.ofInt z38), .int (Int32.ofInt i_p0_fault), .int (Int32.ofInt i_p0_wrongAt), .ref a_p0_places, .ref a_p0_stirred, .ref a_p0_ways, .ref a_p0_waysThen, .ref a_p0_stays, .ref a_p0_fewest, .ref a_p0_bowls, .ref a_p0_has, .ref a_p0_goesOn, .ref a_p0_isThere, .ref a_p0_isThereThen, .ref a_p0_bestRow, .ref a_p0_lanes, .ref a_p0_sizes, .ref a_p0_cells, .int (Int32.ofInt i_p0_torn)])), (a_p0_tape, .inl (G 1, 320, .inl (zA v_p0_tape)))] := hD
                    refine lv_aload_n hx hb dX12_nextToken_204 rfl (lv_at hl 0 rfl) ?_
                    refine lv_dup hx hb dX12_nextToken_205 rfl ?_
                    refine va_get (D := D) (ci := 12) (v := .int (Int32.ofInt z28)) (C := RX12) (T := TX12) (N := 37) hx hb hts inX12_nextToken_X12 hown hK hP 0 rfl rfl 15 (by decide) (hts _ mwX12_nextToken_2) (fun _ h9 => h9) rfl dX12_nextToken_206 ?_
                    refine lv_iconst (v := Int32.ofInt (1 : Int)) hx hb dX12_nextToken_209 (by decide) ?_
                    refine lv_iadd hx hb dX12_nextToken_210 (z_ci (Int32.ofInt_add z28 (1 : Int)) ?_)
                    refine z_topi (fun z39 ez => ?_)
                    replace hf := bnd_s hf ez
                    clear ez
                    refine va_put (D := D) (ci := 12) (v := .int (Int32.ofInt z39)) (ty := .int) (C := RX12) (T := TX12) (N := 37) hx hb hts inX12_nextToken_X12 tyX12 tyX12_ok nmX12 hown hK hP hD hS 0 rfl rfl 15 (by decide) (hts _ mwX12_nextToken_2) (fun _ h9 => h9) rfl (by decide +kernel) rfl rfl (Nat.le_of_ble_eq_true rfl) dX12_nextToken_211 (fun H locs hP hD hS => ?_)
                    have hP : va_P D vwCl [(a_p0, .inr (12, [.ref a_p0_st, .ref a_p0_isKept, .int (Int32.ofInt i_p0_seats), .int (Int32.ofInt i_p0_stirs), .ref a_p0_brings, .ref a_p0_need, .ref a_p0_draft, .int (Int32.ofInt i_p0_dSeats), .int (Int32.ofInt i_p0_dStirs), .ref a_p0_dStir, .ref a_p0_dNeed, .int (Int32.ofInt i_p0_told), .int (Int32.ofInt i_p0_highest), .ref a_p0_tape, .int (Int32.ofInt i_p0_taped), .int (Int32.ofInt z39), .int (Int32.ofInt z4), .int (Int32.ofInt z18), .int (Int32.ofInt z38), .int (Int32.ofInt i_p0_fault), .int (Int32.ofInt i_p0_wrongAt), .ref a_p0_places, .ref a_p0_stirred, .ref a_p0_ways, .ref a_p0_waysThen, .ref a_p0_stays, .ref a_p0_fewest, .ref a_p0_bowls, .ref a_p0_has, .ref a_p0_goesOn, .ref a_p0_isThere, .ref a_p0_isThereThen, .ref a_p0_bestRow, .ref a_p0_lanes, .ref a_p0_sizes, .ref a_p0_cells, .int (Int32.ofInt i_p0_torn)])), (a_p0_tape, .inl (G 1, 320, .inl (zA v_p0_tape)))] H := hP
                    have hD : va_D A [(a_p0, .inr (12, [.ref a_p0_st, .ref a_p0_isKept, .int (Int32.ofInt i_p0_seats), .int (Int32.ofInt i_p0_stirs), .ref a_p0_brings, .ref a_p0_need, .ref a_p0_draft, .int (Int32.ofInt i_p0_dSeats), .int (Int32.ofInt i_p0_dStirs), .ref a_p0_dStir, .ref a_p0_dNeed, .int (Int32.ofInt i_p0_told), .int (Int32.ofInt i_p0_highest), .ref a_p0_tape, .int (Int32.ofInt i_p0_taped), .int (Int32.ofInt z39), .int (Int32.ofInt z4), .int (Int32.ofInt z18), .int (Int32.ofInt z38), .int (Int32.ofInt i_p0_fault), .int (Int32.ofInt i_p0_wrongAt), .ref a_p0_places, .ref a_p0_stirred, .ref a_p0_ways, .ref a_p0_waysThen, .ref a_p0_stays, .ref a_p0_fewest, .ref a_p0_bowls, .ref a_p0_has, .ref a_p0_goesOn, .ref a_p0_isThere, .ref a_p0_isThereThen, .ref a_p0_bestRow, .ref a_p0_lanes, .ref a_p0_sizes, .ref a_p0_cells, .int (Int32.ofInt i_p0_torn)])), (a_p0_tape, .inl (G 1, 320, .inl (zA v_p0_tape)))] := hD
                    refine lv_goto (tgt := 140) hx hb dX12_nextToken_214 (by decide) ?_
                    exact ih140 _ _ _ _ _ (lv_sub hl [0] rfl) hP hD hS hf
                  refine lv_icmp_ge (tgt := 197) hx hb dX12_nextToken_172 (by decide) (fun cc => ?_) (fun cc => ?_)
                  ·
                    replace hf := ite_t ((z_le (by decide) hr34).mp cc) hf
                    clear cc
                    refine lv_aload_n hx hb dX12_nextToken_197 rfl (lv_at hl 0 rfl) ?_
                    refine va_get (D := D) (ci := 12) (v := .int (Int32.ofInt z29)) (C := RX12) (T := TX12) (N := 37) hx hb hts inX12_nextToken_X12 hown hK hP 0 rfl rfl 18 (by decide) (hts _ mwX12_nextToken_10) (fun _ h9 => h9) rfl dX12_nextToken_198 ?_
                    exact hJ37 _ _ _ _ (lv_sub hl [0] rfl) hP hD hS hf
                  ·
                    replace hf := ite_f (fun h9 => cc ((z_le (by decide) hr34).mpr h9)) hf
                    clear cc
                    refine lv_bipush (v := Int32.ofInt (10 : Int)) hx hb dX12_nextToken_175 (by decide) ?_
                    refine lv_aload_n hx hb dX12_nextToken_177 rfl (lv_at hl 0 rfl) ?_
                    refine va_get (D := D) (ci := 12) (v := .int (Int32.ofInt z29)) (C := RX12) (T := TX12) (N := 37) hx hb hts inX12_nextToken_X12 hown hK hP 0 rfl rfl 18 (by decide) (hts _ mwX12_nextToken_10) (fun _ h9 => h9) rfl dX12_nextToken_178 ?_
                    refine lv_imul hx hb dX12_nextToken_181 (z_ci (Int32.ofInt_mul (10 : Int) z29) ?_)
                    refine lv_aload_n hx hb dX12_nextToken_182 rfl (lv_at hl 0 rfl) ?_
                    refine lv_aload_n hx hb dX12_nextToken_183 rfl (lv_at hl 0 rfl) ?_
                    refine va_get (D := D) (ci := 12) (v := .int (Int32.ofInt z28)) (C := RX12) (T := TX12) (N := 37) hx hb hts inX12_nextToken_X12 hown hK hP 0 rfl rfl 15 (by decide) (hts _ mwX12_nextToken_2) (fun _ h9 => h9) rfl dX12_nextToken_184 ?_
                    have hq := bd1_s hf
                    clear hf
                    obtain ⟨z40, hcall, hf⟩ := hq
                    refine gnI (va_runV (As := [.int (Int32.ofInt z28)]) (rest := [.int (Int32.ofInt ((10 : Int) * z29)), .ref a_p0]) ⟨hx, hb, hml, hown, hts⟩ (c_X12_look (l := l) (D := D) (G := G) (sz := H.size) (a_p0 := a_p0) (a_p0_st := a_p0_st) (a_p0_isKept := a_p0_isKept) (a_p0_brings := a_p0_brings) (a_p0_need := a_p0_need) (a_p0_draft := a_p0_draft) (a_p0_dStir := a_p0_dStir) (a_p0_dNeed := a_p0_dNeed) (a_p0_tape := a_p0_tape) (a_p0_places := a_p0_places) (a_p0_stirred := a_p0_stirred) (a_p0_ways := a_p0_ways) (a_p0_waysThen := a_p0_waysThen) (a_p0_stays := a_p0_stays) (a_p0_fewest := a_p0_fewest) (a_p0_bowls := a_p0_bowls) (a_p0_has := a_p0_has) (a_p0_goesOn := a_p0_goesOn) (a_p0_isThere := a_p0_isThere) (a_p0_isThereThen := a_p0_isThereThen) (a_p0_bestRow := a_p0_bestRow) (a_p0_lanes := a_p0_lanes) (a_p0_sizes := a_p0_sizes) (a_p0_cells := a_p0_cells) (i_p0_seats := i_p0_seats) (i_p0_stirs := i_p0_stirs) (i_p0_dSeats := i_p0_dSeats) (i_p0_dStirs := i_p0_dStirs) (i_p0_told := i_p0_told) (i_p0_highest := i_p0_highest) (i_p0_taped := i_p0_taped) (i_p0_pos := z28) (i_p0_from := z4) (i_p0_sort := z18) (i_p0_value := z29) (i_p0_fault := i_p0_fault) (i_p0_wrongAt := i_p0_wrongAt) (i_p0_torn := i_p0_torn) (v_p0_tape := v_p0_tape) (x1 := z28) (r := z40) (hf := hcall)) (cwV 1 hts gX12_nextToken_X12_look rfl rfl rfl hdV_yX12_look_RX12 ⟨Nat.le_of_ble_eq_true rfl, Nat.le_of_ble_eq_true rfl⟩) (preG_V (ci := 12) (q := (RX12, TX12, 37)) (hP.sub [0, 1] rfl) (hD.sub [0, 1] rfl rfl) hK rfl rfl) rfl rfl hl.1 rfl (lv_room (Nat.le_of_ble_eq_true rfl)) dX12_nextToken_187 ⟨Nat.le_of_ble_eq_true rfl, Nat.le_of_ble_eq_true rfl⟩) hP hD hS hA [0, 1] rfl (fun H locs hP hD hS => ?_)
                    clear hcall
                    refine lv_iadd hx hb dX12_nextToken_190 (z_ci (Int32.ofInt_add ((10 : Int) * z29) z40) ?_)
                    refine lv_bipush (v := Int32.ofInt (48 : Int)) hx hb dX12_nextToken_191 (by decide) ?_
                    refine lv_isub hx hb dX12_nextToken_193 (z_ci (Int32.ofInt_sub (((10 : Int) * z29) + z40) (48 : Int)) ?_)
                    refine lv_goto (tgt := 201) hx hb dX12_nextToken_194 (by decide) ?_
                    exact hJ37 _ _ _ _ (lv_sub hl [0] rfl) hP hD hS hf
            exact hB30 _ _ _ _ _ _ (lv_sub hl [1] rfl) hP hD hS hf
        ·
          replace hf := ite_f (fun h9 => cc ((z_eq0 hr8).mpr h9)) hf
          clear cc
          refine lv_aload_n hx hb dX12_nextToken_77 rfl (lv_at hl 1 rfl) ?_
          refine lv_iconst (v := Int32.ofInt (1 : Int)) hx hb dX12_nextToken_78 (by decide) ?_
          refine z_topi (fun z41 ez => ?_)
          replace hf := bnd_s hf ez
          clear ez
          refine va_put (D := D) (ci := 12) (v := .int (Int32.ofInt z41)) (ty := .int) (C := RX12) (T := TX12) (N := 37) hx hb hts inX12_nextToken_X12 tyX12 tyX12_ok nmX12 hown hK hP hD hS 0 rfl rfl 17 (by decide) (hts _ mwX12_nextToken_8) (fun _ h9 => h9) rfl (by decide +kernel) rfl rfl (Nat.le_of_ble_eq_true rfl) dX12_nextToken_79 (fun H locs hP hD hS => ?_)
          have hP : va_P D vwCl [(a_p0, .inr (12, [.ref a_p0_st, .ref a_p0_isKept, .int (Int32.ofInt i_p0_seats), .int (Int32.ofInt i_p0_stirs), .ref a_p0_brings, .ref a_p0_need, .ref a_p0_draft, .int (Int32.ofInt i_p0_dSeats), .int (Int32.ofInt i_p0_dStirs), .ref a_p0_dStir, .ref a_p0_dNeed, .int (Int32.ofInt i_p0_told), .int (Int32.ofInt i_p0_highest), .ref a_p0_tape, .int (Int32.ofInt i_p0_taped), .int (Int32.ofInt z2), .int (Int32.ofInt z4), .int (Int32.ofInt z41), .int (Int32.ofInt i_p0_value), .int (Int32.ofInt i_p0_fault), .int (Int32.ofInt i_p0_wrongAt), .ref a_p0_places, .ref a_p0_stirred, .ref a_p0_ways, .ref a_p0_waysThen, .ref a_p0_stays, .ref a_p0_fewest, .ref a_p0_bowls, .ref a_p0_has, .ref a_p0_goesOn, .ref a_p0_isThere, .ref a_p0_isThereThen, .ref a_p0_bestRow, .ref a_p0_lanes, .ref a_p0_sizes, .ref a_p0_cells, .int (Int32.ofInt i_p0_torn)])), (a_p0_tape, .inl (G 1, 320, .inl (zA v_p0_tape)))] H := hP
          have hD : va_D A [(a_p0, .inr (12, [.ref a_p0_st, .ref a_p0_isKept, .int (Int32.ofInt i_p0_seats), .int (Int32.ofInt i_p0_stirs), .ref a_p0_brings, .ref a_p0_need, .ref a_p0_draft, .int (Int32.ofInt i_p0_dSeats), .int (Int32.ofInt i_p0_dStirs), .ref a_p0_dStir, .ref a_p0_dNeed, .int (Int32.ofInt i_p0_told), .int (Int32.ofInt i_p0_highest), .ref a_p0_tape, .int (Int32.ofInt i_p0_taped), .int (Int32.ofInt z2), .int (Int32.ofInt z4), .int (Int32.ofInt z41), .int (Int32.ofInt i_p0_value), .int (Int32.ofInt i_p0_fault), .int (Int32.ofInt i_p0_wrongAt), .ref a_p0_places, .ref a_p0_stirred, .ref a_p0_ways, .ref a_p0_waysThen, .ref a_p0_stays, .ref a_p0_fewest, .ref a_p0_bowls, .ref a_p0_has, .ref a_p0_goesOn, .ref a_p0_isThere, .ref a_p0_isThereThen, .ref a_p0_bestRow, .ref a_p0_lanes, .ref a_p0_sizes, .ref a_p0_cells, .int (Int32.ofInt i_p0_torn)])), (a_p0_tape, .inl (G 1, 320, .inl (zA v_p0_tape)))] := hD
          have hq := lq1_i hf
          clear hf
          obtain ⟨B43, eB43, NB43, hf⟩ := hq
          have hB43 : ∀ (n : Nat) (z42 : Int) (ls : Array Slot) (H : Heap) (locs : List Loc), lv_has ls 2 [(0, .ref a_p0)] → va_P D vwCl [(a_p0, .inr (12, [.ref a_p0_st, .ref a_p0_isKept, .int (Int32.ofInt i_p0_seats), .int (Int32.ofInt i_p0_stirs), .ref a_p0_brings, .ref a_p0_need, .ref a_p0_draft, .int (Int32.ofInt i_p0_dSeats), .int (Int32.ofInt i_p0_dStirs), .ref a_p0_dStir, .ref a_p0_dNeed, .int (Int32.ofInt i_p0_told), .int (Int32.ofInt i_p0_highest), .ref a_p0_tape, .int (Int32.ofInt i_p0_taped), .int (Int32.ofInt z42), .int (Int32.ofInt z4), .int (Int32.ofInt z41), .int (Int32.ofInt i_p0_value), .int (Int32.ofInt i_p0_fault), .int (Int32.ofInt i_p0_wrongAt), .ref a_p0_places, .ref a_p0_stirred, .ref a_p0_ways, .ref a_p0_waysThen, .ref a_p0_stays, .ref a_p0_fewest, .ref a_p0_bowls, .ref a_p0_has, .ref a_p0_goesOn, .ref a_p0_isThere, .ref a_p0_isThereThen, .ref a_p0_bestRow, .ref a_p0_lanes, .ref a_p0_sizes, .ref a_p0_cells, .int (Int32.ofInt i_p0_torn)])), (a_p0_tape, .inl (G 1, 320, .inl (zA v_p0_tape)))] H → va_D A [(a_p0, .inr (12, [.ref a_p0_st, .ref a_p0_isKept, .int (Int32.ofInt i_p0_seats), .int (Int32.ofInt i_p0_stirs), .ref a_p0_brings, .ref a_p0_need, .ref a_p0_draft, .int (Int32.ofInt i_p0_dSeats), .int (Int32.ofInt i_p0_dStirs), .ref a_p0_dStir, .ref a_p0_dNeed, .int (Int32.ofInt i_p0_told), .int (Int32.ofInt i_p0_highest), .ref a_p0_tape, .int (Int32.ofInt i_p0_taped), .int (Int32.ofInt z42), .int (Int32.ofInt z4), .int (Int32.ofInt z41), .int (Int32.ofInt i_p0_value), .int (Int32.ofInt i_p0_fault), .int (Int32.ofInt i_p0_wrongAt), .ref a_p0_places, .ref a_p0_stirred, .ref a_p0_ways, .ref a_p0_waysThen, .ref a_p0_stays, .ref a_p0_fewest, .ref a_p0_bowls, .ref a_p0_has, .ref a_p0_goesOn, .ref a_p0_isThere, .ref a_p0_isThereThen, .ref a_p0_bestRow, .ref a_p0_lanes, .ref a_p0_sizes, .ref a_p0_cells, .int (Int32.ofInt i_p0_torn)])), (a_p0_tape, .inl (G 1, 320, .inl (zA v_p0_tape)))] → va_S A s.heap H locs → lq1 B43 n z42 = some (o_i_p0_pos, o_i_p0_from, o_i_p0_sort, o_i_p0_value, o_i_p0_fault, o_i_p0_wrongAt) → W p l e rm_X12_nextToken s m ([.ref a_p0] : List Value).toArray below meth c H locs 0 0 Q (F0 m 82 ls []) := by
            clear hf hl hP hD hS
            intro n
            induction n with
            | zero =>
              intro z42 ls H locs hl hP hD hS hf
              exact (lq1_0 hf).elim
            | succ n ih82 =>
              intro z42 ls H locs hl hP hD hS hf
              replace hf := lq1_s eB43 hf
              unfold B_X12_nextToken_82 at hf
              refine lv_aload_n hx hb dX12_nextToken_82 rfl (lv_at hl 0 rfl) ?_
              refine lv_aload_n hx hb dX12_nextToken_83 rfl (lv_at hl 0 rfl) ?_
              refine va_get (D := D) (ci := 12) (v := .int (Int32.ofInt z42)) (C := RX12) (T := TX12) (N := 37) hx hb hts inX12_nextToken_X12 hown hK hP 0 rfl rfl 15 (by decide) (hts _ mwX12_nextToken_2) (fun _ h9 => h9) rfl dX12_nextToken_84 ?_
              have hq := bd1_s hf
              clear hf
              obtain ⟨z44, hcall, hf⟩ := hq
              refine gnI (va_runV (As := [.int (Int32.ofInt z42)]) (rest := []) ⟨hx, hb, hml, hown, hts⟩ (c_X12_look (l := l) (D := D) (G := G) (sz := H.size) (a_p0 := a_p0) (a_p0_st := a_p0_st) (a_p0_isKept := a_p0_isKept) (a_p0_brings := a_p0_brings) (a_p0_need := a_p0_need) (a_p0_draft := a_p0_draft) (a_p0_dStir := a_p0_dStir) (a_p0_dNeed := a_p0_dNeed) (a_p0_tape := a_p0_tape) (a_p0_places := a_p0_places) (a_p0_stirred := a_p0_stirred) (a_p0_ways := a_p0_ways) (a_p0_waysThen := a_p0_waysThen) (a_p0_stays := a_p0_stays) (a_p0_fewest := a_p0_fewest) (a_p0_bowls := a_p0_bowls) (a_p0_has := a_p0_has) (a_p0_goesOn := a_p0_goesOn) (a_p0_isThere := a_p0_isThere) (a_p0_isThereThen := a_p0_isThereThen) (a_p0_bestRow := a_p0_bestRow) (a_p0_lanes := a_p0_lanes) (a_p0_sizes := a_p0_sizes) (a_p0_cells := a_p0_cells) (i_p0_seats := i_p0_seats) (i_p0_stirs := i_p0_stirs) (i_p0_dSeats := i_p0_dSeats) (i_p0_dStirs := i_p0_dStirs) (i_p0_told := i_p0_told) (i_p0_highest := i_p0_highest) (i_p0_taped := i_p0_taped) (i_p0_pos := z42) (i_p0_from := z4) (i_p0_sort := z41) (i_p0_value := i_p0_value) (i_p0_fault := i_p0_fault) (i_p0_wrongAt := i_p0_wrongAt) (i_p0_torn := i_p0_torn) (v_p0_tape := v_p0_tape) (x1 := z42) (r := z44) (hf := hcall)) (cwV 1 hts gX12_nextToken_X12_look rfl rfl rfl hdV_yX12_look_RX12 ⟨Nat.le_of_ble_eq_true rfl, Nat.le_of_ble_eq_true rfl⟩) (preG_V (ci := 12) (q := (RX12, TX12, 37)) (hP.sub [0, 1] rfl) (hD.sub [0, 1] rfl rfl) hK rfl rfl) rfl rfl hl.1 rfl (lv_room (Nat.le_of_ble_eq_true rfl)) dX12_nextToken_87 ⟨Nat.le_of_ble_eq_true rfl, Nat.le_of_ble_eq_true rfl⟩) hP hD hS hA [0, 1] rfl (fun H locs hP hD hS => ?_)
              clear hcall
              have hr44 := ck_c hf
              replace hf := ck_r hf
              refine lv_i2l (v := Int64.ofInt z44) hx hb dX12_nextToken_90 (z_i2l hr44) ?_
              refine lv_ldc2 (v := (97 : Int64)) hx hb hown (hts _ mwX12_nextToken_4) dX12_nextToken_91 (z_cl (show Int64.ofInt (97 : Int) = _ from by decide) ?_)
              refine lv_ldc2 (v := (122 : Int64)) hx hb hown (hts _ mwX12_nextToken_5) dX12_nextToken_94 (z_cl (show Int64.ofInt (122 : Int) = _ from by decide) ?_)
              have hq := bd1_s hf
              clear hf
              obtain ⟨z46, hcall, hf⟩ := hq
              refine gnI (va_runS (As := [.long (Int64.ofInt z44), .long (Int64.ofInt (97 : Int)), .long (Int64.ofInt (122 : Int))]) (rest := []) ⟨hx, hb, hml, hown, hts⟩ (c_X12_in (l := l) (D := D) (G := G) (sz := H.size) (x0 := z44) (x2 := (97 : Int)) (x4 := (122 : Int)) (r := z46) (hf := hcall)) (va_cwS 3 hts gX12_nextToken_X12_in rfl rfl rfl (by decide +kernel) ⟨Nat.le_of_ble_eq_true rfl, Nat.le_of_ble_eq_true rfl⟩) (preG_S (hP.sub [] rfl) (hD.sub [] rfl rfl) hK) rfl rfl hl.1 rfl (lv_room (Nat.le_of_ble_eq_true rfl)) dX12_nextToken_97 ⟨Nat.le_of_ble_eq_true rfl, Nat.le_of_ble_eq_true rfl⟩) hP hD hS hA [] rfl (fun H locs hP hD hS => ?_)
              clear hcall
              have hr46 := ck_c hf
              replace hf := ck_r hf
              refine lv_if_eq (tgt := 274) hx hb dX12_nextToken_100 (by decide) (fun cc => ?_) (fun cc => ?_)
              ·
                replace hf := ite_t ((z_eq0 hr46).mp cc) hf
                clear cc
                obtain ⟨rfl, rfl, rfl, rfl, rfl, rfl⟩ := ou6 hf
                rw [hQ]
                exact W.vret hx hb hr (fun t ht hW => ⟨⟨(), rfl, trivial, by rw [ht]; exact hP, va_K.moved hW.alike hK, hD⟩, hS.F ht⟩) hS.2.2 dX12_nextToken_274
              ·
                replace hf := ite_f (fun h9 => cc ((z_eq0 hr46).mpr h9)) hf
                clear cc
                refine lv_aload_n hx hb dX12_nextToken_103 rfl (lv_at hl 0 rfl) ?_
                refine lv_dup hx hb dX12_nextToken_104 rfl ?_
                refine va_get (D := D) (ci := 12) (v := .int (Int32.ofInt z42)) (C := RX12) (T := TX12) (N := 37) hx hb hts inX12_nextToken_X12 hown hK hP 0 rfl rfl 15 (by decide) (hts _ mwX12_nextToken_2) (fun _ h9 => h9) rfl dX12_nextToken_105 ?_
                refine lv_iconst (v := Int32.ofInt (1 : Int)) hx hb dX12_nextToken_108 (by decide) ?_
                refine lv_iadd hx hb dX12_nextToken_109 (z_ci (Int32.ofInt_add z42 (1 : Int)) ?_)
                refine z_topi (fun z48 ez => ?_)
                replace hf := bnd_s hf ez
                clear ez
                refine va_put (D := D) (ci := 12) (v := .int (Int32.ofInt z48)) (ty := .int) (C := RX12) (T := TX12) (N := 37) hx hb hts inX12_nextToken_X12 tyX12 tyX12_ok nmX12 hown hK hP hD hS 0 rfl rfl 15 (by decide) (hts _ mwX12_nextToken_2) (fun _ h9 => h9) rfl (by decide +kernel) rfl rfl (Nat.le_of_ble_eq_true rfl) dX12_nextToken_110 (fun H locs hP hD hS => ?_)
                have hP : va_P D vwCl [(a_p0, .inr (12, [.ref a_p0_st, .ref a_p0_isKept, .int (Int32.ofInt i_p0_seats), .int (Int32.ofInt i_p0_stirs), .ref a_p0_brings, .ref a_p0_need, .ref a_p0_draft, .int (Int32.ofInt i_p0_dSeats), .int (Int32.ofInt i_p0_dStirs), .ref a_p0_dStir, .ref a_p0_dNeed, .int (Int32.ofInt i_p0_told), .int (Int32.ofInt i_p0_highest), .ref a_p0_tape, .int (Int32.ofInt i_p0_taped), .int (Int32.ofInt z48), .int (Int32.ofInt z4), .int (Int32.ofInt z41), .int (Int32.ofInt i_p0_value), .int (Int32.ofInt i_p0_fault), .int (Int32.ofInt i_p0_wrongAt), .ref a_p0_places, .ref a_p0_stirred, .ref a_p0_ways, .ref a_p0_waysThen, .ref a_p0_stays, .ref a_p0_fewest, .ref a_p0_bowls, .ref a_p0_has, .ref a_p0_goesOn, .ref a_p0_isThere, .ref a_p0_isThereThen, .ref a_p0_bestRow, .ref a_p0_lanes, .ref a_p0_sizes, .ref a_p0_cells, .int (Int32.ofInt i_p0_torn)])), (a_p0_tape, .inl (G 1, 320, .inl (zA v_p0_tape)))] H := hP
                have hD : va_D A [(a_p0, .inr (12, [.ref a_p0_st, .ref a_p0_isKept, .int (Int32.ofInt i_p0_seats), .int (Int32.ofInt i_p0_stirs), .ref a_p0_brings, .ref a_p0_need, .ref a_p0_draft, .int (Int32.ofInt i_p0_dSeats), .int (Int32.ofInt i_p0_dStirs), .ref a_p0_dStir, .ref a_p0_dNeed, .int (Int32.ofInt i_p0_told), .int (Int32.ofInt i_p0_highest), .ref a_p0_tape, .int (Int32.ofInt i_p0_taped), .int (Int32.ofInt z48), .int (Int32.ofInt z4), .int (Int32.ofInt z41), .int (Int32.ofInt i_p0_value), .int (Int32.ofInt i_p0_fault), .int (Int32.ofInt i_p0_wrongAt), .ref a_p0_places, .ref a_p0_stirred, .ref a_p0_ways, .ref a_p0_waysThen, .ref a_p0_stays, .ref a_p0_fewest, .ref a_p0_bowls, .ref a_p0_has, .ref a_p0_goesOn, .ref a_p0_isThere, .ref a_p0_isThereThen, .ref a_p0_bestRow, .ref a_p0_lanes, .ref a_p0_sizes, .ref a_p0_cells, .int (Int32.ofInt i_p0_torn)])), (a_p0_tape, .inl (G 1, 320, .inl (zA v_p0_tape)))] := hD
                refine lv_goto (tgt := 82) hx hb dX12_nextToken_113 (by decide) ?_
                exact ih82 _ _ _ _ (lv_sub hl [0] rfl) hP hD hS hf
          exact hB43 _ _ _ _ _ (lv_sub hl [1] rfl) hP hD hS hf
      ·
        replace hf := ite_f (fun h9 => cc ((z_0le hr6).mpr h9)) hf
        clear cc
        refine lv_aload_n hx hb dX12_nextToken_55 rfl (lv_at hl 1 rfl) ?_
        refine lv_iconst (v := Int32.ofInt (0 : Int)) hx hb dX12_nextToken_56 (by decide) ?_
        refine z_topi (fun z49 ez => ?_)
        replace hf := bnd_s hf ez
        clear ez
        refine va_put (D := D) (ci := 12) (v := .int (Int32.ofInt z49)) (ty := .int) (C := RX12) (T := TX12) (N := 37) hx hb hts inX12_nextToken_X12 tyX12 tyX12_ok nmX12 hown hK hP hD hS 0 rfl rfl 17 (by decide) (hts _ mwX12_nextToken_8) (fun _ h9 => h9) rfl (by decide +kernel) rfl rfl (Nat.le_of_ble_eq_true rfl) dX12_nextToken_57 (fun H locs hP hD hS => ?_)
        have hP : va_P D vwCl [(a_p0, .inr (12, [.ref a_p0_st, .ref a_p0_isKept, .int (Int32.ofInt i_p0_seats), .int (Int32.ofInt i_p0_stirs), .ref a_p0_brings, .ref a_p0_need, .ref a_p0_draft, .int (Int32.ofInt i_p0_dSeats), .int (Int32.ofInt i_p0_dStirs), .ref a_p0_dStir, .ref a_p0_dNeed, .int (Int32.ofInt i_p0_told), .int (Int32.ofInt i_p0_highest), .ref a_p0_tape, .int (Int32.ofInt i_p0_taped), .int (Int32.ofInt z2), .int (Int32.ofInt z4), .int (Int32.ofInt z49), .int (Int32.ofInt i_p0_value), .int (Int32.ofInt i_p0_fault), .int (Int32.ofInt i_p0_wrongAt), .ref a_p0_places, .ref a_p0_stirred, .ref a_p0_ways, .ref a_p0_waysThen, .ref a_p0_stays, .ref a_p0_fewest, .ref a_p0_bowls, .ref a_p0_has, .ref a_p0_goesOn, .ref a_p0_isThere, .ref a_p0_isThereThen, .ref a_p0_bestRow, .ref a_p0_lanes, .ref a_p0_sizes, .ref a_p0_cells, .int (Int32.ofInt i_p0_torn)])), (a_p0_tape, .inl (G 1, 320, .inl (zA v_p0_tape)))] H := hP
        have hD : va_D A [(a_p0, .inr (12, [.ref a_p0_st, .ref a_p0_isKept, .int (Int32.ofInt i_p0_seats), .int (Int32.ofInt i_p0_stirs), .ref a_p0_brings, .ref a_p0_need, .ref a_p0_draft, .int (Int32.ofInt i_p0_dSeats), .int (Int32.ofInt i_p0_dStirs), .ref a_p0_dStir, .ref a_p0_dNeed, .int (Int32.ofInt i_p0_told), .int (Int32.ofInt i_p0_highest), .ref a_p0_tape, .int (Int32.ofInt i_p0_taped), .int (Int32.ofInt z2), .int (Int32.ofInt z4), .int (Int32.ofInt z49), .int (Int32.ofInt i_p0_value), .int (Int32.ofInt i_p0_fault), .int (Int32.ofInt i_p0_wrongAt), .ref a_p0_places, .ref a_p0_stirred, .ref a_p0_ways, .ref a_p0_waysThen, .ref a_p0_stays, .ref a_p0_fewest, .ref a_p0_bowls, .ref a_p0_has, .ref a_p0_goesOn, .ref a_p0_isThere, .ref a_p0_isThereThen, .ref a_p0_bestRow, .ref a_p0_lanes, .ref a_p0_sizes, .ref a_p0_cells, .int (Int32.ofInt i_p0_torn)])), (a_p0_tape, .inl (G 1, 320, .inl (zA v_p0_tape)))] := hD
        refine lv_goto (tgt := 274) hx hb dX12_nextToken_60 (by decide) ?_
        obtain ⟨rfl, rfl, rfl, rfl, rfl, rfl⟩ := ou6 hf
        rw [hQ]
        exact W.vret hx hb hr (fun t ht hW => ⟨⟨(), rfl, trivial, by rw [ht]; exact hP, va_K.moved hW.alike hK, hD⟩, hS.F ht⟩) hS.2.2 dX12_nextToken_274
    have hq := lq1_i hf
    clear hf
    obtain ⟨B51, eB51, NB51, hf⟩ := hq
    have hB51 : ∀ (n : Nat) (z50 : Int) (ls : Array Slot) (H : Heap) (locs : List Loc), lv_has ls 2 [(0, .ref a_p0)] → va_P D vwCl [(a_p0, .inr (12, [.ref a_p0_st, .ref a_p0_isKept, .int (Int32.ofInt i_p0_seats), .int (Int32.ofInt i_p0_stirs), .ref a_p0_brings, .ref a_p0_need, .ref a_p0_draft, .int (Int32.ofInt i_p0_dSeats), .int (Int32.ofInt i_p0_dStirs), .ref a_p0_dStir, .ref a_p0_dNeed, .int (Int32.ofInt i_p0_told), .int (Int32.ofInt i_p0_highest), .ref a_p0_tape, .int (Int32.ofInt i_p0_taped), .int (Int32.ofInt z50), .int (Int32.ofInt i_p0_from), .int (Int32.ofInt i_p0_sort), .int (Int32.ofInt i_p0_value), .int (Int32.ofInt i_p0_fault), .int (Int32.ofInt i_p0_wrongAt), .ref a_p0_places, .ref a_p0_stirred, .ref a_p0_ways, .ref a_p0_waysThen, .ref a_p0_stays, .ref a_p0_fewest, .ref a_p0_bowls, .ref a_p0_has, .ref a_p0_goesOn, .ref a_p0_isThere, .ref a_p0_isThereThen, .ref a_p0_bestRow, .ref a_p0_lanes, .ref a_p0_sizes, .ref a_p0_cells, .int (Int32.ofInt i_p0_torn)])), (a_p0_tape, .inl (G 1, 320, .inl (zA v_p0_tape)))] H → va_D A [(a_p0, .inr (12, [.ref a_p0_st, .ref a_p0_isKept, .int (Int32.ofInt i_p0_seats), .int (Int32.ofInt i_p0_stirs), .ref a_p0_brings, .ref a_p0_need, .ref a_p0_draft, .int (Int32.ofInt i_p0_dSeats), .int (Int32.ofInt i_p0_dStirs), .ref a_p0_dStir, .ref a_p0_dNeed, .int (Int32.ofInt i_p0_told), .int (Int32.ofInt i_p0_highest), .ref a_p0_tape, .int (Int32.ofInt i_p0_taped), .int (Int32.ofInt z50), .int (Int32.ofInt i_p0_from), .int (Int32.ofInt i_p0_sort), .int (Int32.ofInt i_p0_value), .int (Int32.ofInt i_p0_fault), .int (Int32.ofInt i_p0_wrongAt), .ref a_p0_places, .ref a_p0_stirred, .ref a_p0_ways, .ref a_p0_waysThen, .ref a_p0_stays, .ref a_p0_fewest, .ref a_p0_bowls, .ref a_p0_has, .ref a_p0_goesOn, .ref a_p0_isThere, .ref a_p0_isThereThen, .ref a_p0_bestRow, .ref a_p0_lanes, .ref a_p0_sizes, .ref a_p0_cells, .int (Int32.ofInt i_p0_torn)])), (a_p0_tape, .inl (G 1, 320, .inl (zA v_p0_tape)))] → va_S A s.heap H locs → lq1 B51 n z50 = some (o_i_p0_pos, o_i_p0_from, o_i_p0_sort, o_i_p0_value, o_i_p0_fault, o_i_p0_wrongAt) → W p l e rm_X12_nextToken s m ([.ref a_p0] : List Value).toArray below meth c H locs 0 0 Q (F0 m 8 ls []) := by
      clear hf hl hP hD hS
      intro n
      induction n with
      | zero =>
        intro z50 ls H locs hl hP hD hS hf
        exact (lq1_0 hf).elim
      | succ n ih8 =>
        intro z50 ls H locs hl hP hD hS hf
        replace hf := lq1_s eB51 hf
        unfold B_X12_nextToken_8 at hf
        refine lv_aload_n hx hb dX12_nextToken_8 rfl (lv_at hl 0 rfl) ?_
        refine lv_aload_n hx hb dX12_nextToken_9 rfl (lv_at hl 0 rfl) ?_
        refine va_get (D := D) (ci := 12) (v := .int (Int32.ofInt z50)) (C := RX12) (T := TX12) (N := 37) hx hb hts inX12_nextToken_X12 hown hK hP 0 rfl rfl 15 (by decide) (hts _ mwX12_nextToken_2) (fun _ h9 => h9) rfl dX12_nextToken_10 ?_
        have hq := bd1_s hf
        clear hf
        obtain ⟨z52, hcall, hf⟩ := hq
        refine gnI (va_runV (As := [.int (Int32.ofInt z50)]) (rest := []) ⟨hx, hb, hml, hown, hts⟩ (c_X12_look (l := l) (D := D) (G := G) (sz := H.size) (a_p0 := a_p0) (a_p0_st := a_p0_st) (a_p0_isKept := a_p0_isKept) (a_p0_brings := a_p0_brings) (a_p0_need := a_p0_need) (a_p0_draft := a_p0_draft) (a_p0_dStir := a_p0_dStir) (a_p0_dNeed := a_p0_dNeed) (a_p0_tape := a_p0_tape) (a_p0_places := a_p0_places) (a_p0_stirred := a_p0_stirred) (a_p0_ways := a_p0_ways) (a_p0_waysThen := a_p0_waysThen) (a_p0_stays := a_p0_stays) (a_p0_fewest := a_p0_fewest) (a_p0_bowls := a_p0_bowls) (a_p0_has := a_p0_has) (a_p0_goesOn := a_p0_goesOn) (a_p0_isThere := a_p0_isThere) (a_p0_isThereThen := a_p0_isThereThen) (a_p0_bestRow := a_p0_bestRow) (a_p0_lanes := a_p0_lanes) (a_p0_sizes := a_p0_sizes) (a_p0_cells := a_p0_cells) (i_p0_seats := i_p0_seats) (i_p0_stirs := i_p0_stirs) (i_p0_dSeats := i_p0_dSeats) (i_p0_dStirs := i_p0_dStirs) (i_p0_told := i_p0_told) (i_p0_highest := i_p0_highest) (i_p0_taped := i_p0_taped) (i_p0_pos := z50) (i_p0_from := i_p0_from) (i_p0_sort := i_p0_sort) (i_p0_value := i_p0_value) (i_p0_fault := i_p0_fault) (i_p0_wrongAt := i_p0_wrongAt) (i_p0_torn := i_p0_torn) (v_p0_tape := v_p0_tape) (x1 := z50) (r := z52) (hf := hcall)) (cwV 1 hts gX12_nextToken_X12_look rfl rfl rfl hdV_yX12_look_RX12 ⟨Nat.le_of_ble_eq_true rfl, Nat.le_of_ble_eq_true rfl⟩) (preG_V (ci := 12) (q := (RX12, TX12, 37)) (hP.sub [0, 1] rfl) (hD.sub [0, 1] rfl rfl) hK rfl rfl) rfl rfl hl.1 rfl (lv_room (Nat.le_of_ble_eq_true rfl)) dX12_nextToken_13 ⟨Nat.le_of_ble_eq_true rfl, Nat.le_of_ble_eq_true rfl⟩) hP hD hS hA [0, 1] rfl (fun H locs hP hD hS => ?_)
        clear hcall
        refine lv_bipush (v := Int32.ofInt (32 : Int)) hx hb dX12_nextToken_16 (by decide) ?_
        have hr52 := ck_c hf
        replace hf := ck_r hf
        refine lv_icmp_ne (tgt := 34) hx hb dX12_nextToken_18 (by decide) (fun cc => ?_) (fun cc => ?_)
        ·
          replace hf := ite_f (fun h9 => cc ((z_eq hr52 (by decide)).mpr h9)) hf
          clear cc
          exact hJ3 _ _ _ _ (lv_sub hl [0] rfl) hP hD hS hf
        ·
          replace hf := ite_t ((z_eq hr52 (by decide)).mp cc) hf
          clear cc
          refine lv_aload_n hx hb dX12_nextToken_21 rfl (lv_at hl 0 rfl) ?_
          refine lv_dup hx hb dX12_nextToken_22 rfl ?_
          refine va_get (D := D) (ci := 12) (v := .int (Int32.ofInt z50)) (C := RX12) (T := TX12) (N := 37) hx hb hts inX12_nextToken_X12 hown hK hP 0 rfl rfl 15 (by decide) (hts _ mwX12_nextToken_2) (fun _ h9 => h9) rfl dX12_nextToken_23 ?_
          refine lv_iconst (v := Int32.ofInt (1 : Int)) hx hb dX12_nextToken_26 (by decide) ?_
          refine lv_iadd hx hb dX12_nextToken_27 (z_ci (Int32.ofInt_add z50 (1 : Int)) ?_)
          refine z_topi (fun z54 ez => ?_)
          replace hf := bnd_s hf ez
          clear ez
          refine va_put (D := D) (ci := 12) (v := .int (Int32.ofInt z54)) (ty := .int) (C := RX12) (T := TX12) (N := 37) hx hb hts inX12_nextToken_X12 tyX12 tyX12_ok nmX12 hown hK hP hD hS 0 rfl rfl 15 (by decide) (hts _ mwX12_nextToken_2) (fun _ h9 => h9) rfl (by decide +kernel) rfl rfl (Nat.le_of_ble_eq_true rfl) dX12_nextToken_28 (fun H locs hP hD hS => ?_)
          have hP : va_P D vwCl [(a_p0, .inr (12, [.ref a_p0_st, .ref a_p0_isKept, .int (Int32.ofInt i_p0_seats), .int (Int32.ofInt i_p0_stirs), .ref a_p0_brings, .ref a_p0_need, .ref a_p0_draft, .int (Int32.ofInt i_p0_dSeats), .int (Int32.ofInt i_p0_dStirs), .ref a_p0_dStir, .ref a_p0_dNeed, .int (Int32.ofInt i_p0_told), .int (Int32.ofInt i_p0_highest), .ref a_p0_tape, .int (Int32.ofInt i_p0_taped), .int (Int32.ofInt z54), .int (Int32.ofInt i_p0_from), .int (Int32.ofInt i_p0_sort), .int (Int32.ofInt i_p0_value), .int (Int32.ofInt i_p0_fault), .int (Int32.ofInt i_p0_wrongAt), .ref a_p0_places, .ref a_p0_stirred, .ref a_p0_ways, .ref a_p0_waysThen, .ref a_p0_stays, .ref a_p0_fewest, .ref a_p0_bowls, .ref a_p0_has, .ref a_p0_goesOn, .ref a_p0_isThere, .ref a_p0_isThereThen, .ref a_p0_bestRow, .ref a_p0_lanes, .ref a_p0_sizes, .ref a_p0_cells, .int (Int32.ofInt i_p0_torn)])), (a_p0_tape, .inl (G 1, 320, .inl (zA v_p0_tape)))] H := hP
          have hD : va_D A [(a_p0, .inr (12, [.ref a_p0_st, .ref a_p0_isKept, .int (Int32.ofInt i_p0_seats), .int (Int32.ofInt i_p0_stirs), .ref a_p0_brings, .ref a_p0_need, .ref a_p0_draft, .int (Int32.ofInt i_p0_dSeats), .int (Int32.ofInt i_p0_dStirs), .ref a_p0_dStir, .ref a_p0_dNeed, .int (Int32.ofInt i_p0_told), .int (Int32.ofInt i_p0_highest), .ref a_p0_tape, .int (Int32.ofInt i_p0_taped), .int (Int32.ofInt z54), .int (Int32.ofInt i_p0_from), .int (Int32.ofInt i_p0_sort), .int (Int32.ofInt i_p0_value), .int (Int32.ofInt i_p0_fault), .int (Int32.ofInt i_p0_wrongAt), .ref a_p0_places, .ref a_p0_stirred, .ref a_p0_ways, .ref a_p0_waysThen, .ref a_p0_stays, .ref a_p0_fewest, .ref a_p0_bowls, .ref a_p0_has, .ref a_p0_goesOn, .ref a_p0_isThere, .ref a_p0_isThereThen, .ref a_p0_bestRow, .ref a_p0_lanes, .ref a_p0_sizes, .ref a_p0_cells, .int (Int32.ofInt i_p0_torn)])), (a_p0_tape, .inl (G 1, 320, .inl (zA v_p0_tape)))] := hD
          refine lv_goto (tgt := 8) hx hb dX12_nextToken_31 (by decide) ?_
          exact ih8 _ _ _ _ (lv_sub hl [0] rfl) hP hD hS hf
    exact hB51 _ _ _ _ _ (lv_sub hl [0] rfl) hP hD hS hf
  ·
    replace hf := ite_f (fun h9 => cc ((z_le0 hr0).mpr h9)) hf
    clear cc
    obtain ⟨rfl, rfl, rfl, rfl, rfl, rfl⟩ := ou6 hf
    rw [hQ]
    exact W.vret hx hb hr (fun t ht hW => ⟨⟨(), rfl, trivial, by rw [ht]; exact hP, va_K.moved hW.alike hK, hD⟩, hS.F ht⟩) hS.2.2 dX12_nextToken_7
