noncomputable def f_X11_torn (i_p0_latestTear : Int32) : Option (Int32) := (some i_p0_latestTear)
abbrev rm_X11_torn : Room := { frames := 0, cells := 0, slots := 0, locals := 0 }
theorem inX11_torn_X11 : ∀ w ∈ wsX110, w ∈ wsX11_torn := by decide +kernel
theorem mwX11_torn_1 : Cond.fieldLink RX11 103 "LadleKings" "latestTear" "I" ∈ wsX11_torn := by decide +kernel
set_option maxHeartbeats 8000000 in
set_option maxRecDepth 100000 in
theorem c_X11_torn (l : Launch) (D : va_G) (G : Nat → ClassId) (sz : Nat) (a_p0 : Nat) (a_p0_rules : Nat) (a_p0_state : Nat) (a_p0_tape : Nat) (a_p0_reader : Nat) (a_p0_kitchen : Nat) (a_p0_luck : Nat) (a_p0_plans : Nat) (a_p0_coups : Nat) (a_p0_past : Nat) (a_p0_fairDays : Nat) (a_p0_images : Nat) (a_p0_imageHeld : Nat) (a_p0_sheets : Nat) (i_p0_latestFault : Int32) (i_p0_latestTear : Int32) (r : Int32) (hf : f_X11_torn i_p0_latestTear = some r) : Met l yX11_torn wsX11_torn rm_X11_torn (pcG D G [.ref a_p0] sz [(a_p0, .inr (11, [.ref a_p0_rules, .ref a_p0_state, .ref a_p0_tape, .ref a_p0_reader, .ref a_p0_kitchen, .ref a_p0_luck, .ref a_p0_plans, .ref a_p0_coups, .ref a_p0_past, .ref a_p0_fairDays, .ref a_p0_images, .ref a_p0_imageHeld, .ref a_p0_sheets, .int i_p0_latestFault, .int i_p0_latestTear]))]) (qcI D G r [(a_p0, .inr (11, [.ref a_p0_rules, .ref a_p0_state, .ref a_p0_tape, .ref a_p0_reader, .ref a_p0_kitchen, .ref a_p0_luck, .ref a_p0_plans, .ref a_p0_coups, .ref a_p0_past, .ref a_p0_fairDays, .ref a_p0_images, .ref a_p0_imageHeld, .ref a_p0_sheets, .int i_p0_latestFault, .int i_p0_latestTear]))] (va_A [(a_p0, .inr (11, [.ref a_p0_rules, .ref a_p0_state, .ref a_p0_tape, .ref a_p0_reader, .ref a_p0_kitchen, .ref a_p0_luck, .ref a_p0_plans, .ref a_p0_coups, .ref a_p0_past, .ref a_p0_fairDays, .ref a_p0_images, .ref a_p0_imageHeld, .ref a_p0_sheets, .int i_p0_latestFault, .int i_p0_latestTear]))] sz)) 0 0 (va_A [(a_p0, .inr (11, [.ref a_p0_rules, .ref a_p0_state, .ref a_p0_tape, .ref a_p0_reader, .ref a_p0_kitchen, .ref a_p0_luck, .ref a_p0_plans, .ref a_p0_coups, .ref a_p0_past, .ref a_p0_fairDays, .ref a_p0_images, .ref a_p0_imageHeld, .ref a_p0_sheets, .int i_p0_latestFault, .int i_p0_latestTear]))] sz) := by
  refine Met.ofW (cc := cX11_torn) (maxL := 1) (ret := (some .int)) (by decide) rfl ?_
  intro p e s m args below meth c s₁ B hml hv
  obtain ⟨rfl, hsz, hP, hK, hD0⟩ := hv
  have hx := B.exec
  have hb := B.bytes
  have hr := B.returns
  have hts := atoms_spec (ws := wsX11_torn) B.pre
  have hown : s.vm.findClass RX11 = some m.cls := findClass_of_methodNamed B.named
  have hlocks := B.notSynchronized
  subst hsz
  have hD := hD0.self (sz := s.heap.size)
  generalize hAe : va_A [(a_p0, .inr (11, [.ref a_p0_rules, .ref a_p0_state, .ref a_p0_tape, .ref a_p0_reader, .ref a_p0_kitchen, .ref a_p0_luck, .ref a_p0_plans, .ref a_p0_coups, .ref a_p0_past, .ref a_p0_fairDays, .ref a_p0_images, .ref a_p0_imageHeld, .ref a_p0_sheets, .int i_p0_latestFault, .int i_p0_latestTear]))] s.heap.size = A at hD ⊢
  have hA : ∀ q : Nat, s.heap.size ≤ q → A q := fun q h => by rw [← hAe]; exact Or.inr h
  clear hAe hD0
  have hS : va_S A s.heap s.heap [] := va_S.rf
  have hl := lv_entry ([.ref a_p0]) (n := 1) (Nat.le_of_ble_eq_true rfl)
  rw [lg_entry_eq]
  generalize (lg_sl ([.ref a_p0]) ++ List.replicate (1 - (lg_sl ([.ref a_p0])).length) Slot.unset).toArray = ls at hl ⊢
  have hl : lv_has ls 1 [(0, .ref a_p0)] := hl
  refine W_nameQ (fun Q hQ => ?_)
  obtain ⟨H, hH⟩ : ∃ H, H = s.heap := ⟨_, rfl⟩
  replace hS : va_S A s.heap H [] := by rw [hH]; exact hS
  replace hP : va_P D vwCl [(a_p0, .inr (11, [.ref a_p0_rules, .ref a_p0_state, .ref a_p0_tape, .ref a_p0_reader, .ref a_p0_kitchen, .ref a_p0_luck, .ref a_p0_plans, .ref a_p0_coups, .ref a_p0_past, .ref a_p0_fairDays, .ref a_p0_images, .ref a_p0_imageHeld, .ref a_p0_sheets, .int i_p0_latestFault, .int i_p0_latestTear]))] H := by rw [hH]; exact hP
  rw [← hH]
  clear hH
  unfold f_X11_torn at hf
  refine lv_aload_n hx hb dX11_torn_0 rfl (lv_at hl 0 rfl) ?_
  refine va_get (D := D) (ci := 11) (v := .int i_p0_latestTear) (C := RX11) (T := TX11) (N := 15) hx hb hts inX11_torn_X11 hown hK hP 0 rfl rfl 14 (by decide) (hts _ mwX11_torn_1) (fun _ h9 => h9) rfl dX11_torn_1 ?_
  obtain rfl := ou1 hf
  rw [hQ]
  exact W.iret hx hb hr (fun t ht hW => ⟨⟨_, (), rfl, rfl, by rw [ht]; exact hP, va_K.moved hW.alike hK, hD⟩, hS.F ht⟩) hS.2.2 dX11_torn_4

noncomputable def B_X11_piecesInPot_4 (i_p0_rules_seats : Int32) (v_p0_state_pieces : (Nat → Int32)) (again4 : Int32 → Int32 → Option (Int32)) (z3 : Int32) (z4 : Int32) : Option (Int32) := (if i_p0_rules_seats ≤ z3 then (some z4) else (ck (ixB z3 7) (bnd (z4 + (v_p0_state_pieces (z3).toNatClampNeg)) (fun (z6 : Int32) => (bnd (z3 + (1 : Int32)) (fun (z7 : Int32) => (again4 z7 z6)))))))
noncomputable def f_X11_piecesInPot (i_p0_rules_seats : Int32) (v_p0_state_pieces : (Nat → Int32)) : Option (Int32) := (bnd (0 : Int32) (fun (z1 : Int32) => (bnd (0 : Int32) (fun (z2 : Int32) => (lq2 (B_X11_piecesInPot_4 i_p0_rules_seats v_p0_state_pieces) 1000 z2 z1)))))
abbrev rm_X11_piecesInPot : Room := { frames := 0, cells := 0, slots := 0, locals := 0 }
theorem inX11_piecesInPot_X11 : ∀ w ∈ wsX110, w ∈ wsX11_piecesInPot := by decide +kernel
theorem mwX11_piecesInPot_1 : Cond.fieldLink RX11 10 "LadleKings" "rules" "LLadleKings$Rules;" ∈ wsX11_piecesInPot := by decide +kernel
theorem inX11_piecesInPot_X6 : ∀ w ∈ wsX60, w ∈ wsX11_piecesInPot := by decide +kernel
theorem mwX11_piecesInPot_3 : Cond.fieldLink RX11 130 "LadleKings$Rules" "seats" "I" ∈ wsX11_piecesInPot := by decide +kernel
theorem mwX11_piecesInPot_4 : Cond.fieldLink RX11 19 "LadleKings" "state" "LLadleKings$State;" ∈ wsX11_piecesInPot := by decide +kernel
theorem inX11_piecesInPot_X8 : ∀ w ∈ wsX80, w ∈ wsX11_piecesInPot := by decide +kernel
theorem mwX11_piecesInPot_6 : Cond.fieldLink RX11 149 "LadleKings$State" "pieces" "[I" ∈ wsX11_piecesInPot := by decide +kernel
set_option maxHeartbeats 8000000 in
set_option maxRecDepth 100000 in
theorem c_X11_piecesInPot (l : Launch) (D : va_G) (G : Nat → ClassId) (sz : Nat) (a_p0 : Nat) (a_p0_rules : Nat) (a_p0_state : Nat) (a_p0_tape : Nat) (a_p0_reader : Nat) (a_p0_kitchen : Nat) (a_p0_luck : Nat) (a_p0_plans : Nat) (a_p0_coups : Nat) (a_p0_past : Nat) (a_p0_fairDays : Nat) (a_p0_images : Nat) (a_p0_imageHeld : Nat) (a_p0_sheets : Nat) (a_p0_rules_need : Nat) (a_p0_rules_kind : Nat) (a_p0_rules_first : Nat) (a_p0_rules_second : Nat) (a_p0_rules_after : Nat) (a_p0_state_pieces : Nat) (a_p0_state_friends : Nat) (a_p0_state_spoons : Nat) (a_p0_state_eaten : Nat) (a_p0_state_seen : Nat) (i_p0_latestFault : Int32) (i_p0_latestTear : Int32) (i_p0_rules_seats : Int32) (i_p0_rules_stirs : Int32) (i_p0_state_seenDays : Int32) (i_p0_state_bone : Int32) (i_p0_state_king : Int32) (i_p0_state_days : Int32) (v_p0_state_pieces : (Nat → Int32)) (r : Int32) (hf : f_X11_piecesInPot i_p0_rules_seats v_p0_state_pieces = some r) : Met l yX11_piecesInPot wsX11_piecesInPot rm_X11_piecesInPot (pcG D G [.ref a_p0] sz [(a_p0, .inr (11, [.ref a_p0_rules, .ref a_p0_state, .ref a_p0_tape, .ref a_p0_reader, .ref a_p0_kitchen, .ref a_p0_luck, .ref a_p0_plans, .ref a_p0_coups, .ref a_p0_past, .ref a_p0_fairDays, .ref a_p0_images, .ref a_p0_imageHeld, .ref a_p0_sheets, .int i_p0_latestFault, .int i_p0_latestTear])), (a_p0_rules, .inr (6, [.int i_p0_rules_seats, .int i_p0_rules_stirs, .ref a_p0_rules_need, .ref a_p0_rules_kind, .ref a_p0_rules_first, .ref a_p0_rules_second, .ref a_p0_rules_after])), (a_p0_state, .inr (8, [.ref a_p0_state_pieces, .ref a_p0_state_friends, .ref a_p0_state_spoons, .ref a_p0_state_eaten, .ref a_p0_state_seen, .int i_p0_state_seenDays, .int i_p0_state_bone, .int i_p0_state_king, .int i_p0_state_days])), (a_p0_state_pieces, .inl (G 1, 7, .inl v_p0_state_pieces))]) (qcI D G r [(a_p0, .inr (11, [.ref a_p0_rules, .ref a_p0_state, .ref a_p0_tape, .ref a_p0_reader, .ref a_p0_kitchen, .ref a_p0_luck, .ref a_p0_plans, .ref a_p0_coups, .ref a_p0_past, .ref a_p0_fairDays, .ref a_p0_images, .ref a_p0_imageHeld, .ref a_p0_sheets, .int i_p0_latestFault, .int i_p0_latestTear])), (a_p0_rules, .inr (6, [.int i_p0_rules_seats, .int i_p0_rules_stirs, .ref a_p0_rules_need, .ref a_p0_rules_kind, .ref a_p0_rules_first, .ref a_p0_rules_second, .ref a_p0_rules_after])), (a_p0_state, .inr (8, [.ref a_p0_state_pieces, .ref a_p0_state_friends, .ref a_p0_state_spoons, .ref a_p0_state_eaten, .ref a_p0_state_seen, .int i_p0_state_seenDays, .int i_p0_state_bone, .int i_p0_state_king, .int i_p0_state_days])), (a_p0_state_pieces, .inl (G 1, 7, .inl v_p0_state_pieces))] (va_A [(a_p0, .inr (11, [.ref a_p0_rules, .ref a_p0_state, .ref a_p0_tape, .ref a_p0_reader, .ref a_p0_kitchen, .ref a_p0_luck, .ref a_p0_plans, .ref a_p0_coups, .ref a_p0_past, .ref a_p0_fairDays, .ref a_p0_images, .ref a_p0_imageHeld, .ref a_p0_sheets, .int i_p0_latestFault, .int i_p0_latestTear])), (a_p0_rules, .inr (6, [.int i_p0_rules_seats, .int i_p0_rules_stirs, .ref a_p0_rules_need, .ref a_p0_rules_kind, .ref a_p0_rules_first, .ref a_p0_rules_second, .ref a_p0_rules_after])), (a_p0_state, .inr (8, [.ref a_p0_state_pieces, .ref a_p0_state_friends, .ref a_p0_state_spoons, .ref a_p0_state_eaten, .ref a_p0_state_seen, .int i_p0_state_seenDays, .int i_p0_state_bone, .int i_p0_state_king, .int i_p0_state_days])), (a_p0_state_pieces, .inl (G 1, 7, .inl v_p0_state_pieces))] sz)) 0 0 (va_A [(a_p0, .inr (11, [.ref a_p0_rules, .ref a_p0_state, .ref a_p0_tape, .ref a_p0_reader, .ref a_p0_kitchen, .ref a_p0_luck, .ref a_p0_plans, .ref a_p0_coups, .ref a_p0_past, .ref a_p0_fairDays, .ref a_p0_images, .ref a_p0_imageHeld, .ref a_p0_sheets, .int i_p0_latestFault, .int i_p0_latestTear])), (a_p0_rules, .inr (6, [.int i_p0_rules_seats, .int i_p0_rules_stirs, .ref a_p0_rules_need, .ref a_p0_rules_kind, .ref a_p0_rules_first, .ref a_p0_rules_second, .ref a_p0_rules_after])), (a_p0_state, .inr (8, [.ref a_p0_state_pieces, .ref a_p0_state_friends, .ref a_p0_state_spoons, .ref a_p0_state_eaten, .ref a_p0_state_seen, .int i_p0_state_seenDays, .int i_p0_state_bone, .int i_p0_state_king, .int i_p0_state_days])), (a_p0_state_pieces, .inl (G 1, 7, .inl v_p0_state_pieces))] sz) := by
  refine Met.ofW (cc := cX11_piecesInPot) (maxL := 3) (ret := (some .int)) (by decide) rfl ?_
  intro p e s m args below meth c s₁ B hml hv
  obtain ⟨rfl, hsz, hP, hK, hD0⟩ := hv
  have hx := B.exec
  have hb := B.bytes
  have hr := B.returns
  have hts := atoms_spec (ws := wsX11_piecesInPot) B.pre
  have hown : s.vm.findClass RX11 = some m.cls := findClass_of_methodNamed B.named
  have hlocks := B.notSynchronized
  subst hsz
  have hD := hD0.self (sz := s.heap.size)
  generalize hAe : va_A [(a_p0, .inr (11, [.ref a_p0_rules, .ref a_p0_state, .ref a_p0_tape, .ref a_p0_reader, .ref a_p0_kitchen, .ref a_p0_luck, .ref a_p0_plans, .ref a_p0_coups, .ref a_p0_past, .ref a_p0_fairDays, .ref a_p0_images, .ref a_p0_imageHeld, .ref a_p0_sheets, .int i_p0_latestFault, .int i_p0_latestTear])), (a_p0_rules, .inr (6, [.int i_p0_rules_seats, .int i_p0_rules_stirs, .ref a_p0_rules_need, .ref a_p0_rules_kind, .ref a_p0_rules_first, .ref a_p0_rules_second, .ref a_p0_rules_after])), (a_p0_state, .inr (8, [.ref a_p0_state_pieces, .ref a_p0_state_friends, .ref a_p0_state_spoons, .ref a_p0_state_eaten, .ref a_p0_state_seen, .int i_p0_state_seenDays, .int i_p0_state_bone, .int i_p0_state_king, .int i_p0_state_days])), (a_p0_state_pieces, .inl (G 1, 7, .inl v_p0_state_pieces))] s.heap.size = A at hD ⊢
  have hA : ∀ q : Nat, s.heap.size ≤ q → A q := fun q h => by rw [← hAe]; exact Or.inr h
  clear hAe hD0
  have hS : va_S A s.heap s.heap [] := va_S.rf
  have hl := lv_entry ([.ref a_p0]) (n := 3) (Nat.le_of_ble_eq_true rfl)
  rw [lg_entry_eq]
  generalize (lg_sl ([.ref a_p0]) ++ List.replicate (3 - (lg_sl ([.ref a_p0])).length) Slot.unset).toArray = ls at hl ⊢
  have hl : lv_has ls 3 [(0, .ref a_p0)] := hl
  refine W_nameQ (fun Q hQ => ?_)
  obtain ⟨H, hH⟩ : ∃ H, H = s.heap := ⟨_, rfl⟩
  replace hS : va_S A s.heap H [] := by rw [hH]; exact hS
  replace hP : va_P D vwCl [(a_p0, .inr (11, [.ref a_p0_rules, .ref a_p0_state, .ref a_p0_tape, .ref a_p0_reader, .ref a_p0_kitchen, .ref a_p0_luck, .ref a_p0_plans, .ref a_p0_coups, .ref a_p0_past, .ref a_p0_fairDays, .ref a_p0_images, .ref a_p0_imageHeld, .ref a_p0_sheets, .int i_p0_latestFault, .int i_p0_latestTear])), (a_p0_rules, .inr (6, [.int i_p0_rules_seats, .int i_p0_rules_stirs, .ref a_p0_rules_need, .ref a_p0_rules_kind, .ref a_p0_rules_first, .ref a_p0_rules_second, .ref a_p0_rules_after])), (a_p0_state, .inr (8, [.ref a_p0_state_pieces, .ref a_p0_state_friends, .ref a_p0_state_spoons, .ref a_p0_state_eaten, .ref a_p0_state_seen, .int i_p0_state_seenDays, .int i_p0_state_bone, .int i_p0_state_king, .int i_p0_state_days])), (a_p0_state_pieces, .inl (G 1, 7, .inl v_p0_state_pieces))] H := by rw [hH]; exact hP
  rw [← hH]
  clear hH
  unfold f_X11_piecesInPot at hf
  refine lv_iconst (v := (0 : Int32)) hx hb dX11_piecesInPot_0 (by decide) ?_
  refine lv_topi (fun z1 ez => ?_)
  replace hf := bnd_s hf ez
  clear ez
  refine lv_istore_n (lv' := [(1, .int z1), (0, .ref a_p0)]) hx hb dX11_piecesInPot_1 rfl hl (by decide) rfl (fun ls hl => ?_)
  refine lv_iconst (v := (0 : Int32)) hx hb dX11_piecesInPot_2 (by decide) ?_
  refine lv_topi (fun z2 ez => ?_)
  replace hf := bnd_s hf ez
  clear ez
  refine lv_istore_n (lv' := [(2, .int z2), (1, .int z1), (0, .ref a_p0)]) hx hb dX11_piecesInPot_3 rfl hl (by decide) rfl (fun ls hl => ?_)
  have hq := lq2_i hf
  clear hf
  obtain ⟨B5, eB5, NB5, hf⟩ := hq
  have hB5 : ∀ (n : Nat) (z3 : Int32) (z4 : Int32) (ls : Array Slot) (H : Heap) (locs : List Loc), lv_has ls 3 [(2, .int z3), (1, .int z4), (0, .ref a_p0)] → va_P D vwCl [(a_p0, .inr (11, [.ref a_p0_rules, .ref a_p0_state, .ref a_p0_tape, .ref a_p0_reader, .ref a_p0_kitchen, .ref a_p0_luck, .ref a_p0_plans, .ref a_p0_coups, .ref a_p0_past, .ref a_p0_fairDays, .ref a_p0_images, .ref a_p0_imageHeld, .ref a_p0_sheets, .int i_p0_latestFault, .int i_p0_latestTear])), (a_p0_rules, .inr (6, [.int i_p0_rules_seats, .int i_p0_rules_stirs, .ref a_p0_rules_need, .ref a_p0_rules_kind, .ref a_p0_rules_first, .ref a_p0_rules_second, .ref a_p0_rules_after])), (a_p0_state, .inr (8, [.ref a_p0_state_pieces, .ref a_p0_state_friends, .ref a_p0_state_spoons, .ref a_p0_state_eaten, .ref a_p0_state_seen, .int i_p0_state_seenDays, .int i_p0_state_bone, .int i_p0_state_king, .int i_p0_state_days])), (a_p0_state_pieces, .inl (G 1, 7, .inl v_p0_state_pieces))] H → va_D A [(a_p0, .inr (11, [.ref a_p0_rules, .ref a_p0_state, .ref a_p0_tape, .ref a_p0_reader, .ref a_p0_kitchen, .ref a_p0_luck, .ref a_p0_plans, .ref a_p0_coups, .ref a_p0_past, .ref a_p0_fairDays, .ref a_p0_images, .ref a_p0_imageHeld, .ref a_p0_sheets, .int i_p0_latestFault, .int i_p0_latestTear])), (a_p0_rules, .inr (6, [.int i_p0_rules_seats, .int i_p0_rules_stirs, .ref a_p0_rules_need, .ref a_p0_rules_kind, .ref a_p0_rules_first, .ref a_p0_rules_second, .ref a_p0_rules_after])), (a_p0_state, .inr (8, [.ref a_p0_state_pieces, .ref a_p0_state_friends, .ref a_p0_state_spoons, .ref a_p0_state_eaten, .ref a_p0_state_seen, .int i_p0_state_seenDays, .int i_p0_state_bone, .int i_p0_state_king, .int i_p0_state_days])), (a_p0_state_pieces, .inl (G 1, 7, .inl v_p0_state_pieces))] → va_S A s.heap H locs → lq2 B5 n z3 z4 = some r → W p l e rm_X11_piecesInPot s m ([.ref a_p0] : List Value).toArray below meth c H locs 0 0 Q (F0 m 4 ls []) := by
    clear hf hl hP hD hS
    intro n
    induction n with
    | zero =>
      intro z3 z4 ls H locs hl hP hD hS hf
      exact (lq2_0 hf).elim
    | succ n ih4 =>
      intro z3 z4 ls H locs hl hP hD hS hf
      replace hf := lq2_s eB5 hf
      unfold B_X11_piecesInPot_4 at hf
      refine lv_iload_n hx hb dX11_piecesInPot_4 rfl (lv_at hl 0 rfl) ?_
      refine lv_aload_n hx hb dX11_piecesInPot_5 rfl (lv_at hl 2 rfl) ?_
      refine va_get (D := D) (ci := 11) (v := .ref a_p0_rules) (C := RX11) (T := TX11) (N := 15) hx hb hts inX11_piecesInPot_X11 hown hK hP 0 rfl rfl 0 (by decide) (hts _ mwX11_piecesInPot_1) (fun _ h9 => h9) rfl dX11_piecesInPot_6 ?_
      refine va_get (D := D) (ci := 6) (v := .int i_p0_rules_seats) (C := RX6) (T := TX6) (N := 7) hx hb hts inX11_piecesInPot_X6 hown hK hP 1 rfl rfl 0 (by decide) (hts _ mwX11_piecesInPot_3) (fun _ h9 => h9) rfl dX11_piecesInPot_9 ?_
      refine lv_icmp_ge (tgt := 33) hx hb dX11_piecesInPot_12 (by decide) (fun cc => ?_) (fun cc => ?_)
      ·
        replace hf := ite_t cc hf
        clear cc
        refine lv_iload_n hx hb dX11_piecesInPot_33 rfl (lv_at hl 1 rfl) ?_
        obtain rfl := ou1 hf
        rw [hQ]
        exact W.iret hx hb hr (fun t ht hW => ⟨⟨_, (), rfl, rfl, by rw [ht]; exact hP, va_K.moved hW.alike hK, hD⟩, hS.F ht⟩) hS.2.2 dX11_piecesInPot_34
      ·
        replace hf := ite_f cc hf
        clear cc
        refine lv_iload_n hx hb dX11_piecesInPot_15 rfl (lv_at hl 1 rfl) ?_
        refine lv_aload_n hx hb dX11_piecesInPot_16 rfl (lv_at hl 2 rfl) ?_
        refine va_get (D := D) (ci := 11) (v := .ref a_p0_state) (C := RX11) (T := TX11) (N := 15) hx hb hts inX11_piecesInPot_X11 hown hK hP 0 rfl rfl 1 (by decide) (hts _ mwX11_piecesInPot_4) (fun _ h9 => h9) rfl dX11_piecesInPot_17 ?_
        refine va_get (D := D) (ci := 8) (v := .ref a_p0_state_pieces) (C := RX8) (T := TX8) (N := 9) hx hb hts inX11_piecesInPot_X8 hown hK hP 2 rfl rfl 0 (by decide) (hts _ mwX11_piecesInPot_6) (fun _ h9 => h9) rfl dX11_piecesInPot_20 ?_
        refine lv_iload_n hx hb dX11_piecesInPot_23 rfl (lv_at hl 0 rfl) ?_
        have hc := ck_c hf
        replace hf := ck_r hf
        refine va_iald hx hb hK hP 3 1 rfl rfl (ixB_in hc) dX11_piecesInPot_24 ?_
        clear hc
        refine lv_iadd hx hb dX11_piecesInPot_25 ?_
        refine lv_topi (fun z6 ez => ?_)
        replace hf := bnd_s hf ez
        clear ez
        refine lv_istore_n (lv' := [(1, .int z6), (2, .int z3), (0, .ref a_p0)]) hx hb dX11_piecesInPot_26 rfl hl (by decide) rfl (fun ls hl => ?_)
        obtain ⟨z7, ez⟩ : ∃ y : Int32, y = (z3 + (1 : Int32)) := ⟨_, rfl⟩
        replace hf := bnd_s hf ez
        refine lv_iinc (v := z7) (lv' := [(2, .int z7), (1, .int z6), (0, .ref a_p0)]) hx hb dX11_piecesInPot_27 hl (k := 1) rfl (by rw [ez]; rfl) (by decide) rfl (fun ls hl => ?_)
        clear ez
        refine lv_goto (tgt := 4) hx hb dX11_piecesInPot_30 (by decide) ?_
        exact ih4 _ _ _ _ _ (lv_sub hl [0, 1, 2] rfl) hP hD hS hf
  exact hB5 _ _ _ _ _ _ (lv_sub hl [0, 1, 2] rfl) hP hD hS hf

noncomputable def f_X11_count (i_p0_rules_seats : Int32) (i_p0_state_seenDays : Int32) (v_p0_state_pieces : (Nat → Int32)) (i_p0_tape_length : Int32) (v_p0_imageHeld : (Nat → Int32)) (i_p0_sheets_0_lane : Int32) (i_p0_sheets_0_size : Int32) (x1 : Int32) : Option (Int32) := (if x1 = (0 : Int32) then (some i_p0_state_seenDays) else (if x1 = (1 : Int32) then (ck (ixB (0 : Int32) 2) (jn (fun (z3 : Int32) => (ck (ixB (1 : Int32) 2) (if (v_p0_imageHeld ((1 : Int32)).toNatClampNeg) = 0 then (some (z3 + (0 : Int32))) else (some (z3 + (1 : Int32)))))) (fun (J4 : Int32 → Option (Int32)) => (if (v_p0_imageHeld ((0 : Int32)).toNatClampNeg) = 0 then (J4 (0 : Int32)) else (J4 (1 : Int32)))))) else (if x1 = (2 : Int32) then (some i_p0_tape_length) else (if x1 = (3 : Int32) then (ck (ixB (0 : Int32) 4) (bd1 (f_X7_isNothing i_p0_sheets_0_lane) (fun (z7 : Int32) => (if z7 = 0 then (ck (ixB (0 : Int32) 4) (some i_p0_sheets_0_size)) else (some (-4 : Int32)))))) else (if x1 = (4 : Int32) then (bd1 (f_X11_piecesInPot i_p0_rules_seats v_p0_state_pieces) (fun (z9 : Int32) => (some z9))) else (some (-1 : Int32)))))))
abbrev rm_X11_count : Room := { frames := 1, cells := 0, slots := 0, locals := 22 }
theorem inX11_count_X11 : ∀ w ∈ wsX110, w ∈ wsX11_count := by decide +kernel
theorem mwX11_count_1 : Cond.fieldLink RX11 19 "LadleKings" "state" "LLadleKings$State;" ∈ wsX11_count := by decide +kernel
theorem inX11_count_X8 : ∀ w ∈ wsX80, w ∈ wsX11_count := by decide +kernel
theorem mwX11_count_3 : Cond.fieldLink RX11 247 "LadleKings$State" "seenDays" "I" ∈ wsX11_count := by decide +kernel
theorem mwX11_count_4 : Cond.fieldLink RX11 89 "LadleKings" "imageHeld" "[Z" ∈ wsX11_count := by decide +kernel
theorem mwX11_count_5 : Cond.fieldLink RX11 26 "LadleKings" "tape" "LLadleKings$Tape;" ∈ wsX11_count := by decide +kernel
theorem inX11_count_X9 : ∀ w ∈ wsX90, w ∈ wsX11_count := by decide +kernel
theorem mwX11_count_7 : Cond.fieldLink RX11 111 "LadleKings$Tape" "length" "I" ∈ wsX11_count := by decide +kernel
theorem mwX11_count_8 : Cond.fieldLink RX11 95 "LadleKings" "sheets" "[LLadleKings$Sheet;" ∈ wsX11_count := by decide +kernel
theorem inX11_count_X7 : ∀ w ∈ wsX70, w ∈ wsX11_count := by decide +kernel
theorem mwX11_count_10 : Cond.fieldLink RX11 303 "LadleKings$Sheet" "size" "I" ∈ wsX11_count := by decide +kernel
set_option maxHeartbeats 8000000 in
set_option maxRecDepth 100000 in
theorem c_X11_count (l : Launch) (D : va_G) (G : Nat → ClassId) (sz : Nat) (a_p0 : Nat) (a_p0_rules : Nat) (a_p0_state : Nat) (a_p0_tape : Nat) (a_p0_reader : Nat) (a_p0_kitchen : Nat) (a_p0_luck : Nat) (a_p0_plans : Nat) (a_p0_coups : Nat) (a_p0_past : Nat) (a_p0_fairDays : Nat) (a_p0_images : Nat) (a_p0_imageHeld : Nat) (a_p0_sheets : Nat) (a_p0_rules_need : Nat) (a_p0_rules_kind : Nat) (a_p0_rules_first : Nat) (a_p0_rules_second : Nat) (a_p0_rules_after : Nat) (a_p0_state_pieces : Nat) (a_p0_state_friends : Nat) (a_p0_state_spoons : Nat) (a_p0_state_eaten : Nat) (a_p0_state_seen : Nat) (a_p0_tape_bytes : Nat) (a_p0_sheets_0 : Nat) (a_p0_sheets_1 : Nat) (a_p0_sheets_2 : Nat) (a_p0_sheets_3 : Nat) (a_p0_sheets_0_cells : Nat) (a_p0_sheets_1_cells : Nat) (a_p0_sheets_2_cells : Nat) (a_p0_sheets_3_cells : Nat) (i_p0_latestFault : Int32) (i_p0_latestTear : Int32) (i_p0_rules_seats : Int32) (i_p0_rules_stirs : Int32) (i_p0_state_seenDays : Int32) (i_p0_state_bone : Int32) (i_p0_state_king : Int32) (i_p0_state_days : Int32) (v_p0_state_pieces : (Nat → Int32)) (i_p0_tape_length : Int32) (i_p0_tape_at : Int32) (i_p0_tape_token : Int32) (i_p0_tape_start : Int32) (i_p0_tape_value : Int32) (v_p0_imageHeld : (Nat → Int32)) (i_p0_sheets_0_lane : Int32) (i_p0_sheets_0_size : Int32) (i_p0_sheets_1_lane : Int32) (i_p0_sheets_1_size : Int32) (i_p0_sheets_2_lane : Int32) (i_p0_sheets_2_size : Int32) (i_p0_sheets_3_lane : Int32) (i_p0_sheets_3_size : Int32) (x1 : Int32) (r : Int32) (hf : f_X11_count i_p0_rules_seats i_p0_state_seenDays v_p0_state_pieces i_p0_tape_length v_p0_imageHeld i_p0_sheets_0_lane i_p0_sheets_0_size x1 = some r) : Met l yX11_count wsX11_count rm_X11_count (pcG D G [.ref a_p0, .int x1] sz [(a_p0, .inr (11, [.ref a_p0_rules, .ref a_p0_state, .ref a_p0_tape, .ref a_p0_reader, .ref a_p0_kitchen, .ref a_p0_luck, .ref a_p0_plans, .ref a_p0_coups, .ref a_p0_past, .ref a_p0_fairDays, .ref a_p0_images, .ref a_p0_imageHeld, .ref a_p0_sheets, .int i_p0_latestFault, .int i_p0_latestTear])), (a_p0_rules, .inr (6, [.int i_p0_rules_seats, .int i_p0_rules_stirs, .ref a_p0_rules_need, .ref a_p0_rules_kind, .ref a_p0_rules_first, .ref a_p0_rules_second, .ref a_p0_rules_after])), (a_p0_state, .inr (8, [.ref a_p0_state_pieces, .ref a_p0_state_friends, .ref a_p0_state_spoons, .ref a_p0_state_eaten, .ref a_p0_state_seen, .int i_p0_state_seenDays, .int i_p0_state_bone, .int i_p0_state_king, .int i_p0_state_days])), (a_p0_state_pieces, .inl (G 1, 7, .inl v_p0_state_pieces)), (a_p0_tape, .inr (9, [.ref a_p0_tape_bytes, .int i_p0_tape_length, .int i_p0_tape_at, .int i_p0_tape_token, .int i_p0_tape_start, .int i_p0_tape_value])), (a_p0_imageHeld, .inl (G 3, 2, .inl v_p0_imageHeld)), (a_p0_sheets, .inl (G 5, 4, .inr (.inr (.inr (.inr (va_up (va_up (va_up (va_up (fun _ => none) 0 (some a_p0_sheets_0)) 1 (some a_p0_sheets_1)) 2 (some a_p0_sheets_2)) 3 (some a_p0_sheets_3))))))), (a_p0_sheets_0, .inr (7, [.int i_p0_sheets_0_lane, .int i_p0_sheets_0_size, .ref a_p0_sheets_0_cells])), (a_p0_sheets_1, .inr (7, [.int i_p0_sheets_1_lane, .int i_p0_sheets_1_size, .ref a_p0_sheets_1_cells])), (a_p0_sheets_2, .inr (7, [.int i_p0_sheets_2_lane, .int i_p0_sheets_2_size, .ref a_p0_sheets_2_cells])), (a_p0_sheets_3, .inr (7, [.int i_p0_sheets_3_lane, .int i_p0_sheets_3_size, .ref a_p0_sheets_3_cells]))]) (qcI D G r [(a_p0, .inr (11, [.ref a_p0_rules, .ref a_p0_state, .ref a_p0_tape, .ref a_p0_reader, .ref a_p0_kitchen, .ref a_p0_luck, .ref a_p0_plans, .ref a_p0_coups, .ref a_p0_past, .ref a_p0_fairDays, .ref a_p0_images, .ref a_p0_imageHeld, .ref a_p0_sheets, .int i_p0_latestFault, .int i_p0_latestTear])), (a_p0_rules, .inr (6, [.int i_p0_rules_seats, .int i_p0_rules_stirs, .ref a_p0_rules_need, .ref a_p0_rules_kind, .ref a_p0_rules_first, .ref a_p0_rules_second, .ref a_p0_rules_after])), (a_p0_state, .inr (8, [.ref a_p0_state_pieces, .ref a_p0_state_friends, .ref a_p0_state_spoons, .ref a_p0_state_eaten, .ref a_p0_state_seen, .int i_p0_state_seenDays, .int i_p0_state_bone, .int i_p0_state_king, .int i_p0_state_days])), (a_p0_state_pieces, .inl (G 1, 7, .inl v_p0_state_pieces)), (a_p0_tape, .inr (9, [.ref a_p0_tape_bytes, .int i_p0_tape_length, .int i_p0_tape_at, .int i_p0_tape_token, .int i_p0_tape_start, .int i_p0_tape_value])), (a_p0_imageHeld, .inl (G 3, 2, .inl v_p0_imageHeld)), (a_p0_sheets, .inl (G 5, 4, .inr (.inr (.inr (.inr (va_up (va_up (va_up (va_up (fun _ => none) 0 (some a_p0_sheets_0)) 1 (some a_p0_sheets_1)) 2 (some a_p0_sheets_2)) 3 (some a_p0_sheets_3))))))), (a_p0_sheets_0, .inr (7, [.int i_p0_sheets_0_lane, .int i_p0_sheets_0_size, .ref a_p0_sheets_0_cells])), (a_p0_sheets_1, .inr (7, [.int i_p0_sheets_1_lane, .int i_p0_sheets_1_size, .ref a_p0_sheets_1_cells])), (a_p0_sheets_2, .inr (7, [.int i_p0_sheets_2_lane, .int i_p0_sheets_2_size, .ref a_p0_sheets_2_cells])), (a_p0_sheets_3, .inr (7, [.int i_p0_sheets_3_lane, .int i_p0_sheets_3_size, .ref a_p0_sheets_3_cells]))] (va_A [(a_p0, .inr (11, [.ref a_p0_rules, .ref a_p0_state, .ref a_p0_tape, .ref a_p0_reader, .ref a_p0_kitchen, .ref a_p0_luck, .ref a_p0_plans, .ref a_p0_coups, .ref a_p0_past, .ref a_p0_fairDays, .ref a_p0_images, .ref a_p0_imageHeld, .ref a_p0_sheets, .int i_p0_latestFault, .int i_p0_latestTear])), (a_p0_rules, .inr (6, [.int i_p0_rules_seats, .int i_p0_rules_stirs, .ref a_p0_rules_need, .ref a_p0_rules_kind, .ref a_p0_rules_first, .ref a_p0_rules_second, .ref a_p0_rules_after])), (a_p0_state, .inr (8, [.ref a_p0_state_pieces, .ref a_p0_state_friends, .ref a_p0_state_spoons, .ref a_p0_state_eaten, .ref a_p0_state_seen, .int i_p0_state_seenDays, .int i_p0_state_bone, .int i_p0_state_king, .int i_p0_state_days])), (a_p0_state_pieces, .inl (G 1, 7, .inl v_p0_state_pieces)), (a_p0_tape, .inr (9, [.ref a_p0_tape_bytes, .int i_p0_tape_length, .int i_p0_tape_at, .int i_p0_tape_token, .int i_p0_tape_start, .int i_p0_tape_value])), (a_p0_imageHeld, .inl (G 3, 2, .inl v_p0_imageHeld)), (a_p0_sheets, .inl (G 5, 4, .inr (.inr (.inr (.inr (va_up (va_up (va_up (va_up (fun _ => none) 0 (some a_p0_sheets_0)) 1 (some a_p0_sheets_1)) 2 (some a_p0_sheets_2)) 3 (some a_p0_sheets_3))))))), (a_p0_sheets_0, .inr (7, [.int i_p0_sheets_0_lane, .int i_p0_sheets_0_size, .ref a_p0_sheets_0_cells])), (a_p0_sheets_1, .inr (7, [.int i_p0_sheets_1_lane, .int i_p0_sheets_1_size, .ref a_p0_sheets_1_cells])), (a_p0_sheets_2, .inr (7, [.int i_p0_sheets_2_lane, .int i_p0_sheets_2_size, .ref a_p0_sheets_2_cells])), (a_p0_sheets_3, .inr (7, [.int i_p0_sheets_3_lane, .int i_p0_sheets_3_size, .ref a_p0_sheets_3_cells]))] sz)) 0 0 (va_A [(a_p0, .inr (11, [.ref a_p0_rules, .ref a_p0_state, .ref a_p0_tape, .ref a_p0_reader, .ref a_p0_kitchen, .ref a_p0_luck, .ref a_p0_plans, .ref a_p0_coups, .ref a_p0_past, .ref a_p0_fairDays, .ref a_p0_images, .ref a_p0_imageHeld, .ref a_p0_sheets, .int i_p0_latestFault, .int i_p0_latestTear])), (a_p0_rules, .inr (6, [.int i_p0_rules_seats, .int i_p0_rules_stirs, .ref a_p0_rules_need, .ref a_p0_rules_kind, .ref a_p0_rules_first, .ref a_p0_rules_second, .ref a_p0_rules_after])), (a_p0_state, .inr (8, [.ref a_p0_state_pieces, .ref a_p0_state_friends, .ref a_p0_state_spoons, .ref a_p0_state_eaten, .ref a_p0_state_seen, .int i_p0_state_seenDays, .int i_p0_state_bone, .int i_p0_state_king, .int i_p0_state_days])), (a_p0_state_pieces, .inl (G 1, 7, .inl v_p0_state_pieces)), (a_p0_tape, .inr (9, [.ref a_p0_tape_bytes, .int i_p0_tape_length, .int i_p0_tape_at, .int i_p0_tape_token, .int i_p0_tape_start, .int i_p0_tape_value])), (a_p0_imageHeld, .inl (G 3, 2, .inl v_p0_imageHeld)), (a_p0_sheets, .inl (G 5, 4, .inr (.inr (.inr (.inr (va_up (va_up (va_up (va_up (fun _ => none) 0 (some a_p0_sheets_0)) 1 (some a_p0_sheets_1)) 2 (some a_p0_sheets_2)) 3 (some a_p0_sheets_3))))))), (a_p0_sheets_0, .inr (7, [.int i_p0_sheets_0_lane, .int i_p0_sheets_0_size, .ref a_p0_sheets_0_cells])), (a_p0_sheets_1, .inr (7, [.int i_p0_sheets_1_lane, .int i_p0_sheets_1_size, .ref a_p0_sheets_1_cells])), (a_p0_sheets_2, .inr (7, [.int i_p0_sheets_2_lane, .int i_p0_sheets_2_size, .ref a_p0_sheets_2_cells])), (a_p0_sheets_3, .inr (7, [.int i_p0_sheets_3_lane, .int i_p0_sheets_3_size, .ref a_p0_sheets_3_cells]))] sz) := by
  refine Met.ofW (cc := cX11_count) (maxL := 2) (ret := (some .int)) (by decide) rfl ?_
  intro p e s m args below meth c s₁ B hml hv
  obtain ⟨rfl, hsz, hP, hK, hD0⟩ := hv
  have hx := B.exec
  have hb := B.bytes
  have hr := B.returns
  have hts := atoms_spec (ws := wsX11_count) B.pre
  have hown : s.vm.findClass RX11 = some m.cls := findClass_of_methodNamed B.named
  have hlocks := B.notSynchronized
  subst hsz
  have hD := hD0.self (sz := s.heap.size)
  generalize hAe : va_A [(a_p0, .inr (11, [.ref a_p0_rules, .ref a_p0_state, .ref a_p0_tape, .ref a_p0_reader, .ref a_p0_kitchen, .ref a_p0_luck, .ref a_p0_plans, .ref a_p0_coups, .ref a_p0_past, .ref a_p0_fairDays, .ref a_p0_images, .ref a_p0_imageHeld, .ref a_p0_sheets, .int i_p0_latestFault, .int i_p0_latestTear])), (a_p0_rules, .inr (6, [.int i_p0_rules_seats, .int i_p0_rules_stirs, .ref a_p0_rules_need, .ref a_p0_rules_kind, .ref a_p0_rules_first, .ref a_p0_rules_second, .ref a_p0_rules_after])), (a_p0_state, .inr (8, [.ref a_p0_state_pieces, .ref a_p0_state_friends, .ref a_p0_state_spoons, .ref a_p0_state_eaten, .ref a_p0_state_seen, .int i_p0_state_seenDays, .int i_p0_state_bone, .int i_p0_state_king, .int i_p0_state_days])), (a_p0_state_pieces, .inl (G 1, 7, .inl v_p0_state_pieces)), (a_p0_tape, .inr (9, [.ref a_p0_tape_bytes, .int i_p0_tape_length, .int i_p0_tape_at, .int i_p0_tape_token, .int i_p0_tape_start, .int i_p0_tape_value])), (a_p0_imageHeld, .inl (G 3, 2, .inl v_p0_imageHeld)), (a_p0_sheets, .inl (G 5, 4, .inr (.inr (.inr (.inr (va_up (va_up (va_up (va_up (fun _ => none) 0 (some a_p0_sheets_0)) 1 (some a_p0_sheets_1)) 2 (some a_p0_sheets_2)) 3 (some a_p0_sheets_3))))))), (a_p0_sheets_0, .inr (7, [.int i_p0_sheets_0_lane, .int i_p0_sheets_0_size, .ref a_p0_sheets_0_cells])), (a_p0_sheets_1, .inr (7, [.int i_p0_sheets_1_lane, .int i_p0_sheets_1_size, .ref a_p0_sheets_1_cells])), (a_p0_sheets_2, .inr (7, [.int i_p0_sheets_2_lane, .int i_p0_sheets_2_size, .ref a_p0_sheets_2_cells])), (a_p0_sheets_3, .inr (7, [.int i_p0_sheets_3_lane, .int i_p0_sheets_3_size, .ref a_p0_sheets_3_cells]))] s.heap.size = A at hD ⊢
  have hA : ∀ q : Nat, s.heap.size ≤ q → A q := fun q h => by rw [← hAe]; exact Or.inr h
  clear hAe hD0
  have hS : va_S A s.heap s.heap [] := va_S.rf
  have hl := lv_entry ([.ref a_p0, .int x1]) (n := 2) (Nat.le_of_ble_eq_true rfl)
  rw [lg_entry_eq]
  generalize (lg_sl ([.ref a_p0, .int x1]) ++ List.replicate (2 - (lg_sl ([.ref a_p0, .int x1])).length) Slot.unset).toArray = ls at hl ⊢
  have hl : lv_has ls 2 [(0, .ref a_p0), (1, .int x1)] := hl
  refine W_nameQ (fun Q hQ => ?_)
  obtain ⟨H, hH⟩ : ∃ H, H = s.heap := ⟨_, rfl⟩
  replace hS : va_S A s.heap H [] := by rw [hH]; exact hS
  replace hP : va_P D vwCl [(a_p0, .inr (11, [.ref a_p0_rules, .ref a_p0_state, .ref a_p0_tape, .ref a_p0_reader, .ref a_p0_kitchen, .ref a_p0_luck, .ref a_p0_plans, .ref a_p0_coups, .ref a_p0_past, .ref a_p0_fairDays, .ref a_p0_images, .ref a_p0_imageHeld, .ref a_p0_sheets, .int i_p0_latestFault, .int i_p0_latestTear])), (a_p0_rules, .inr (6, [.int i_p0_rules_seats, .int i_p0_rules_stirs, .ref a_p0_rules_need, .ref a_p0_rules_kind, .ref a_p0_rules_first, .ref a_p0_rules_second, .ref a_p0_rules_after])), (a_p0_state, .inr (8, [.ref a_p0_state_pieces, .ref a_p0_state_friends, .ref a_p0_state_spoons, .ref a_p0_state_eaten, .ref a_p0_state_seen, .int i_p0_state_seenDays, .int i_p0_state_bone, .int i_p0_state_king, .int i_p0_state_days])), (a_p0_state_pieces, .inl (G 1, 7, .inl v_p0_state_pieces)), (a_p0_tape, .inr (9, [.ref a_p0_tape_bytes, .int i_p0_tape_length, .int i_p0_tape_at, .int i_p0_tape_token, .int i_p0_tape_start, .int i_p0_tape_value])), (a_p0_imageHeld, .inl (G 3, 2, .inl v_p0_imageHeld)), (a_p0_sheets, .inl (G 5, 4, .inr (.inr (.inr (.inr (va_up (va_up (va_up (va_up (fun _ => none) 0 (some a_p0_sheets_0)) 1 (some a_p0_sheets_1)) 2 (some a_p0_sheets_2)) 3 (some a_p0_sheets_3))))))), (a_p0_sheets_0, .inr (7, [.int i_p0_sheets_0_lane, .int i_p0_sheets_0_size, .ref a_p0_sheets_0_cells])), (a_p0_sheets_1, .inr (7, [.int i_p0_sheets_1_lane, .int i_p0_sheets_1_size, .ref a_p0_sheets_1_cells])), (a_p0_sheets_2, .inr (7, [.int i_p0_sheets_2_lane, .int i_p0_sheets_2_size, .ref a_p0_sheets_2_cells])), (a_p0_sheets_3, .inr (7, [.int i_p0_sheets_3_lane, .int i_p0_sheets_3_size, .ref a_p0_sheets_3_cells]))] H := by rw [hH]; exact hP
  rw [← hH]
  clear hH
  unfold f_X11_count at hf
  refine lv_iload_n hx hb dX11_count_0 rfl (lv_at hl 1 rfl) ?_
  rcases Decidable.em (x1 = (0 : Int32)) with hk1 | hk1
  ·
    replace hf := ite_t hk1 hf
    refine lv_tableIn (tgt := 36) hx hb dX11_count_1 (by rw [hk1]; decide) (by rw [hk1]; decide) (by rw [hk1]; rfl) (by decide) ?_
    clear hk1
    refine lv_aload_n hx hb dX11_count_36 rfl (lv_at hl 0 rfl) ?_
    refine va_get (D := D) (ci := 11) (v := .ref a_p0_state) (C := RX11) (T := TX11) (N := 15) hx hb hts inX11_count_X11 hown hK hP 0 rfl rfl 1 (by decide) (hts _ mwX11_count_1) (fun _ h9 => h9) rfl dX11_count_37 ?_
    refine va_get (D := D) (ci := 8) (v := .int i_p0_state_seenDays) (C := RX8) (T := TX8) (N := 9) hx hb hts inX11_count_X8 hown hK hP 2 rfl rfl 5 (by decide) (hts _ mwX11_count_3) (fun _ h9 => h9) rfl dX11_count_40 ?_
    obtain rfl := ou1 hf
    rw [hQ]
    exact W.iret hx hb hr (fun t ht hW => ⟨⟨_, (), rfl, rfl, by rw [ht]; exact hP, va_K.moved hW.alike hK, hD⟩, hS.F ht⟩) hS.2.2 dX11_count_43
  replace hf := ite_f hk1 hf
  rcases Decidable.em (x1 = (1 : Int32)) with hk2 | hk2
  ·
    replace hf := ite_t hk2 hf
    refine lv_tableIn (tgt := 44) hx hb dX11_count_1 (by rw [hk2]; decide) (by rw [hk2]; decide) (by rw [hk2]; rfl) (by decide) ?_
    clear hk2 hk1
    refine lv_aload_n hx hb dX11_count_44 rfl (lv_at hl 0 rfl) ?_
    refine va_get (D := D) (ci := 11) (v := .ref a_p0_imageHeld) (C := RX11) (T := TX11) (N := 15) hx hb hts inX11_count_X11 hown hK hP 0 rfl rfl 11 (by decide) (hts _ mwX11_count_4) (fun _ h9 => h9) rfl dX11_count_45 ?_
    refine lv_iconst (v := (0 : Int32)) hx hb dX11_count_48 (by decide) ?_
    have hc := ck_c hf
    replace hf := ck_r hf
    refine va_zald hx hb hK hP 5 3 rfl rfl (ixB_in hc) dX11_count_49 ?_
    clear hc
    have hq := jn_i hf
    clear hf
    obtain ⟨J4, eJ4, hf⟩ := hq
    have hJ4 : ∀ (z3 : Int32) (ls : Array Slot) (H : Heap) (locs : List Loc), lv_has ls 2 [(0, .ref a_p0)] → va_P D vwCl [(a_p0, .inr (11, [.ref a_p0_rules, .ref a_p0_state, .ref a_p0_tape, .ref a_p0_reader, .ref a_p0_kitchen, .ref a_p0_luck, .ref a_p0_plans, .ref a_p0_coups, .ref a_p0_past, .ref a_p0_fairDays, .ref a_p0_images, .ref a_p0_imageHeld, .ref a_p0_sheets, .int i_p0_latestFault, .int i_p0_latestTear])), (a_p0_rules, .inr (6, [.int i_p0_rules_seats, .int i_p0_rules_stirs, .ref a_p0_rules_need, .ref a_p0_rules_kind, .ref a_p0_rules_first, .ref a_p0_rules_second, .ref a_p0_rules_after])), (a_p0_state, .inr (8, [.ref a_p0_state_pieces, .ref a_p0_state_friends, .ref a_p0_state_spoons, .ref a_p0_state_eaten, .ref a_p0_state_seen, .int i_p0_state_seenDays, .int i_p0_state_bone, .int i_p0_state_king, .int i_p0_state_days])), (a_p0_state_pieces, .inl (G 1, 7, .inl v_p0_state_pieces)), (a_p0_tape, .inr (9, [.ref a_p0_tape_bytes, .int i_p0_tape_length, .int i_p0_tape_at, .int i_p0_tape_token, .int i_p0_tape_start, .int i_p0_tape_value])), (a_p0_imageHeld, .inl (G 3, 2, .inl v_p0_imageHeld)), (a_p0_sheets, .inl (G 5, 4, .inr (.inr (.inr (.inr (va_up (va_up (va_up (va_up (fun _ => none) 0 (some a_p0_sheets_0)) 1 (some a_p0_sheets_1)) 2 (some a_p0_sheets_2)) 3 (some a_p0_sheets_3))))))), (a_p0_sheets_0, .inr (7, [.int i_p0_sheets_0_lane, .int i_p0_sheets_0_size, .ref a_p0_sheets_0_cells])), (a_p0_sheets_1, .inr (7, [.int i_p0_sheets_1_lane, .int i_p0_sheets_1_size, .ref a_p0_sheets_1_cells])), (a_p0_sheets_2, .inr (7, [.int i_p0_sheets_2_lane, .int i_p0_sheets_2_size, .ref a_p0_sheets_2_cells])), (a_p0_sheets_3, .inr (7, [.int i_p0_sheets_3_lane, .int i_p0_sheets_3_size, .ref a_p0_sheets_3_cells]))] H → va_D A [(a_p0, .inr (11, [.ref a_p0_rules, .ref a_p0_state, .ref a_p0_tape, .ref a_p0_reader, .ref a_p0_kitchen, .ref a_p0_luck, .ref a_p0_plans, .ref a_p0_coups, .ref a_p0_past, .ref a_p0_fairDays, .ref a_p0_images, .ref a_p0_imageHeld, .ref a_p0_sheets, .int i_p0_latestFault, .int i_p0_latestTear])), (a_p0_rules, .inr (6, [.int i_p0_rules_seats, .int i_p0_rules_stirs, .ref a_p0_rules_need, .ref a_p0_rules_kind, .ref a_p0_rules_first, .ref a_p0_rules_second, .ref a_p0_rules_after])), (a_p0_state, .inr (8, [.ref a_p0_state_pieces, .ref a_p0_state_friends, .ref a_p0_state_spoons, .ref a_p0_state_eaten, .ref a_p0_state_seen, .int i_p0_state_seenDays, .int i_p0_state_bone, .int i_p0_state_king, .int i_p0_state_days])), (a_p0_state_pieces, .inl (G 1, 7, .inl v_p0_state_pieces)), (a_p0_tape, .inr (9, [.ref a_p0_tape_bytes, .int i_p0_tape_length, .int i_p0_tape_at, .int i_p0_tape_token, .int i_p0_tape_start, .int i_p0_tape_value])), (a_p0_imageHeld, .inl (G 3, 2, .inl v_p0_imageHeld)), (a_p0_sheets, .inl (G 5, 4, .inr (.inr (.inr (.inr (va_up (va_up (va_up (va_up (fun _ => none) 0 (some a_p0_sheets_0)) 1 (some a_p0_sheets_1)) 2 (some a_p0_sheets_2)) 3 (some a_p0_sheets_3))))))), (a_p0_sheets_0, .inr (7, [.int i_p0_sheets_0_lane, .int i_p0_sheets_0_size, .ref a_p0_sheets_0_cells])), (a_p0_sheets_1, .inr (7, [.int i_p0_sheets_1_lane, .int i_p0_sheets_1_size, .ref a_p0_sheets_1_cells])), (a_p0_sheets_2, .inr (7, [.int i_p0_sheets_2_lane, .int i_p0_sheets_2_size, .ref a_p0_sheets_2_cells])), (a_p0_sheets_3, .inr (7, [.int i_p0_sheets_3_lane, .int i_p0_sheets_3_size, .ref a_p0_sheets_3_cells]))] → va_S A s.heap H locs → J4 z3 = some r → W p l e rm_X11_count s m ([.ref a_p0, .int x1] : List Value).toArray below meth c H locs 0 0 Q (F0 m 58 ls [.int z3]) := by
      clear hf hl hP hD hS
      intro z3 ls H locs hl hP hD hS hf
      replace hf := jn1_s eJ4 hf
      refine lv_aload_n hx hb dX11_count_58 rfl (lv_at hl 0 rfl) ?_
      refine va_get (D := D) (ci := 11) (v := .ref a_p0_imageHeld) (C := RX11) (T := TX11) (N := 15) hx hb hts inX11_count_X11 hown hK hP 0 rfl rfl 11 (by decide) (hts _ mwX11_count_4) (fun _ h9 => h9) rfl dX11_count_59 ?_
      refine lv_iconst (v := (1 : Int32)) hx hb dX11_count_62 (by decide) ?_
      have hc := ck_c hf
      replace hf := ck_r hf
      refine va_zald hx hb hK hP 5 3 rfl rfl (ixB_in hc) dX11_count_63 ?_
      clear hc
      refine lv_if_eq (tgt := 71) hx hb dX11_count_64 (by decide) (fun cc => ?_) (fun cc => ?_)
      ·
        replace hf := ite_t cc hf
        clear cc
        refine lv_iconst (v := (0 : Int32)) hx hb dX11_count_71 (by decide) ?_
        refine lv_iadd hx hb dX11_count_72 ?_
        obtain rfl := ou1 hf
        rw [hQ]
        exact W.iret hx hb hr (fun t ht hW => ⟨⟨_, (), rfl, rfl, by rw [ht]; exact hP, va_K.moved hW.alike hK, hD⟩, hS.F ht⟩) hS.2.2 dX11_count_73
      ·
        replace hf := ite_f cc hf
        clear cc
        refine lv_iconst (v := (1 : Int32)) hx hb dX11_count_67 (by decide) ?_
        refine lv_goto (tgt := 72) hx hb dX11_count_68 (by decide) ?_
        refine lv_iadd hx hb dX11_count_72 ?_
        obtain rfl := ou1 hf
        rw [hQ]
        exact W.iret hx hb hr (fun t ht hW => ⟨⟨_, (), rfl, rfl, by rw [ht]; exact hP, va_K.moved hW.alike hK, hD⟩, hS.F ht⟩) hS.2.2 dX11_count_73
    refine lv_if_eq (tgt := 57) hx hb dX11_count_50 (by decide) (fun cc => ?_) (fun cc => ?_)
    ·
      replace hf := ite_t cc hf
      clear cc
      refine lv_iconst (v := (0 : Int32)) hx hb dX11_count_57 (by decide) ?_
      exact hJ4 _ _ _ _ (lv_sub hl [0] rfl) hP hD hS hf
    ·
      replace hf := ite_f cc hf
      clear cc
      refine lv_iconst (v := (1 : Int32)) hx hb dX11_count_53 (by decide) ?_
      refine lv_goto (tgt := 58) hx hb dX11_count_54 (by decide) ?_
      exact hJ4 _ _ _ _ (lv_sub hl [0] rfl) hP hD hS hf
  replace hf := ite_f hk2 hf
  rcases Decidable.em (x1 = (2 : Int32)) with hk5 | hk5
  ·
    replace hf := ite_t hk5 hf
    refine lv_tableIn (tgt := 74) hx hb dX11_count_1 (by rw [hk5]; decide) (by rw [hk5]; decide) (by rw [hk5]; rfl) (by decide) ?_
    clear hk5 hk1 hk2
    refine lv_aload_n hx hb dX11_count_74 rfl (lv_at hl 0 rfl) ?_
    refine va_get (D := D) (ci := 11) (v := .ref a_p0_tape) (C := RX11) (T := TX11) (N := 15) hx hb hts inX11_count_X11 hown hK hP 0 rfl rfl 2 (by decide) (hts _ mwX11_count_5) (fun _ h9 => h9) rfl dX11_count_75 ?_
    refine va_get (D := D) (ci := 9) (v := .int i_p0_tape_length) (C := RX9) (T := TX9) (N := 6) hx hb hts inX11_count_X9 hown hK hP 4 rfl rfl 1 (by decide) (hts _ mwX11_count_7) (fun _ h9 => h9) rfl dX11_count_78 ?_
    obtain rfl := ou1 hf
    rw [hQ]
    exact W.iret hx hb hr (fun t ht hW => ⟨⟨_, (), rfl, rfl, by rw [ht]; exact hP, va_K.moved hW.alike hK, hD⟩, hS.F ht⟩) hS.2.2 dX11_count_81
  replace hf := ite_f hk5 hf
  rcases Decidable.em (x1 = (3 : Int32)) with hk6 | hk6
  ·
    replace hf := ite_t hk6 hf
    refine lv_tableIn (tgt := 82) hx hb dX11_count_1 (by rw [hk6]; decide) (by rw [hk6]; decide) (by rw [hk6]; rfl) (by decide) ?_
    clear hk6 hk1 hk2 hk5
    refine lv_aload_n hx hb dX11_count_82 rfl (lv_at hl 0 rfl) ?_
    refine va_get (D := D) (ci := 11) (v := .ref a_p0_sheets) (C := RX11) (T := TX11) (N := 15) hx hb hts inX11_count_X11 hown hK hP 0 rfl rfl 12 (by decide) (hts _ mwX11_count_8) (fun _ h9 => h9) rfl dX11_count_83 ?_
    refine lv_iconst (v := (0 : Int32)) hx hb dX11_count_86 (by decide) ?_
    have hc := ck_c hf
    replace hf := ck_r hf
    refine va_aldq hx hb hK hP 6 5 rfl rfl (ixB_in hc) dX11_count_87 ?_
    clear hc
    refine W.eq (g2 := F0 m 88 ls [.ref a_p0_sheets_0]) rfl ?_
    have hq := bd1_s hf
    clear hf
    obtain ⟨z7, hcall, hf⟩ := hq
    refine gcI (ws' := [(a_p0, .inr (11, [.ref a_p0_rules, .ref a_p0_state, .ref a_p0_tape, .ref a_p0_reader, .ref a_p0_kitchen, .ref a_p0_luck, .ref a_p0_plans, .ref a_p0_coups, .ref a_p0_past, .ref a_p0_fairDays, .ref a_p0_images, .ref a_p0_imageHeld, .ref a_p0_sheets, .int i_p0_latestFault, .int i_p0_latestTear])), (a_p0_rules, .inr (6, [.int i_p0_rules_seats, .int i_p0_rules_stirs, .ref a_p0_rules_need, .ref a_p0_rules_kind, .ref a_p0_rules_first, .ref a_p0_rules_second, .ref a_p0_rules_after])), (a_p0_state, .inr (8, [.ref a_p0_state_pieces, .ref a_p0_state_friends, .ref a_p0_state_spoons, .ref a_p0_state_eaten, .ref a_p0_state_seen, .int i_p0_state_seenDays, .int i_p0_state_bone, .int i_p0_state_king, .int i_p0_state_days])), (a_p0_state_pieces, .inl (G 1, 7, .inl v_p0_state_pieces)), (a_p0_tape, .inr (9, [.ref a_p0_tape_bytes, .int i_p0_tape_length, .int i_p0_tape_at, .int i_p0_tape_token, .int i_p0_tape_start, .int i_p0_tape_value])), (a_p0_imageHeld, .inl (G 3, 2, .inl v_p0_imageHeld)), (a_p0_sheets, .inl (G 5, 4, .inr (.inr (.inr (.inr (va_up (va_up (va_up (va_up (fun _ => none) 0 (some a_p0_sheets_0)) 1 (some a_p0_sheets_1)) 2 (some a_p0_sheets_2)) 3 (some a_p0_sheets_3))))))), (a_p0_sheets_0, .inr (7, [.int i_p0_sheets_0_lane, .int i_p0_sheets_0_size, .ref a_p0_sheets_0_cells])), (a_p0_sheets_1, .inr (7, [.int i_p0_sheets_1_lane, .int i_p0_sheets_1_size, .ref a_p0_sheets_1_cells])), (a_p0_sheets_2, .inr (7, [.int i_p0_sheets_2_lane, .int i_p0_sheets_2_size, .ref a_p0_sheets_2_cells])), (a_p0_sheets_3, .inr (7, [.int i_p0_sheets_3_lane, .int i_p0_sheets_3_size, .ref a_p0_sheets_3_cells]))]) (va_runV (As := []) (rest := []) ⟨hx, hb, hml, hown, hts⟩ (c_X7_isNothing (l := l) (D := D) (G := G) (sz := H.size) (a_p0 := a_p0_sheets_0) (a_p0_cells := a_p0_sheets_0_cells) (i_p0_lane := i_p0_sheets_0_lane) (i_p0_size := i_p0_sheets_0_size) (r := z7) (hf := hcall)) (cwV 0 hts gX11_count_X7_isNothing rfl rfl rfl (by decide +kernel) ⟨Nat.le_of_ble_eq_true rfl, Nat.le_of_ble_eq_true rfl⟩) (preG_V (ci := 7) (hP.sub [7] rfl) (hD.sub [7] rfl rfl) hK rfl rfl) rfl rfl hl.1 rfl (lv_room (Nat.le_of_ble_eq_true rfl)) dX11_count_88 ⟨Nat.le_of_ble_eq_true rfl, Nat.le_of_ble_eq_true rfl⟩) hP hD hS hA [7] [0, 1, 2, 3, 4, 5, 6, 8, 9, 10] [0, 1, 2, 3, 4, 5, 6, 10, 7, 8, 9] rfl rfl rfl (by decide) rfl rfl rfl (fun H locs hP hD hS => ?_)
    clear hcall
    refine lv_if_eq (tgt := 99) hx hb dX11_count_91 (by decide) (fun cc => ?_) (fun cc => ?_)
    ·
      replace hf := ite_t cc hf
      clear cc
      refine lv_aload_n hx hb dX11_count_99 rfl (lv_at hl 0 rfl) ?_
      refine va_get (D := D) (ci := 11) (v := .ref a_p0_sheets) (C := RX11) (T := TX11) (N := 15) hx hb hts inX11_count_X11 hown hK hP 0 rfl rfl 12 (by decide) (hts _ mwX11_count_8) (fun _ h9 => h9) rfl dX11_count_100 ?_
      refine lv_iconst (v := (0 : Int32)) hx hb dX11_count_103 (by decide) ?_
      have hc := ck_c hf
      replace hf := ck_r hf
      refine va_aldq hx hb hK hP 6 5 rfl rfl (ixB_in hc) dX11_count_104 ?_
      clear hc
      refine W.eq (g2 := F0 m 105 ls [.ref a_p0_sheets_0]) rfl ?_
      refine va_get (D := D) (ci := 7) (v := .int i_p0_sheets_0_size) (C := RX7) (T := TX7) (N := 3) hx hb hts inX11_count_X7 hown hK hP 7 rfl rfl 1 (by decide) (hts _ mwX11_count_10) (fun _ h9 => h9) rfl dX11_count_105 ?_
      obtain rfl := ou1 hf
      rw [hQ]
      exact W.iret hx hb hr (fun t ht hW => ⟨⟨_, (), rfl, rfl, by rw [ht]; exact hP, va_K.moved hW.alike hK, hD⟩, hS.F ht⟩) hS.2.2 dX11_count_108
    ·
      replace hf := ite_f cc hf
      clear cc
      refine lv_bipush (v := (-4 : Int32)) hx hb dX11_count_94 (by decide) ?_
      refine lv_goto (tgt := 108) hx hb dX11_count_96 (by decide) ?_
      obtain rfl := ou1 hf
      rw [hQ]
      exact W.iret hx hb hr (fun t ht hW => ⟨⟨_, (), rfl, rfl, by rw [ht]; exact hP, va_K.moved hW.alike hK, hD⟩, hS.F ht⟩) hS.2.2 dX11_count_108
  replace hf := ite_f hk6 hf
  rcases Decidable.em (x1 = (4 : Int32)) with hk8 | hk8
  ·
    replace hf := ite_t hk8 hf
    refine lv_tableIn (tgt := 109) hx hb dX11_count_1 (by rw [hk8]; decide) (by rw [hk8]; decide) (by rw [hk8]; rfl) (by decide) ?_
    clear hk8 hk1 hk2 hk5 hk6
    refine lv_aload_n hx hb dX11_count_109 rfl (lv_at hl 0 rfl) ?_
    have hq := bd1_s hf
    clear hf
    obtain ⟨z9, hcall, hf⟩ := hq
    refine gcI (ws' := [(a_p0, .inr (11, [.ref a_p0_rules, .ref a_p0_state, .ref a_p0_tape, .ref a_p0_reader, .ref a_p0_kitchen, .ref a_p0_luck, .ref a_p0_plans, .ref a_p0_coups, .ref a_p0_past, .ref a_p0_fairDays, .ref a_p0_images, .ref a_p0_imageHeld, .ref a_p0_sheets, .int i_p0_latestFault, .int i_p0_latestTear])), (a_p0_rules, .inr (6, [.int i_p0_rules_seats, .int i_p0_rules_stirs, .ref a_p0_rules_need, .ref a_p0_rules_kind, .ref a_p0_rules_first, .ref a_p0_rules_second, .ref a_p0_rules_after])), (a_p0_state, .inr (8, [.ref a_p0_state_pieces, .ref a_p0_state_friends, .ref a_p0_state_spoons, .ref a_p0_state_eaten, .ref a_p0_state_seen, .int i_p0_state_seenDays, .int i_p0_state_bone, .int i_p0_state_king, .int i_p0_state_days])), (a_p0_state_pieces, .inl (G 1, 7, .inl v_p0_state_pieces)), (a_p0_tape, .inr (9, [.ref a_p0_tape_bytes, .int i_p0_tape_length, .int i_p0_tape_at, .int i_p0_tape_token, .int i_p0_tape_start, .int i_p0_tape_value])), (a_p0_imageHeld, .inl (G 3, 2, .inl v_p0_imageHeld)), (a_p0_sheets, .inl (G 5, 4, .inr (.inr (.inr (.inr (va_up (va_up (va_up (va_up (fun _ => none) 0 (some a_p0_sheets_0)) 1 (some a_p0_sheets_1)) 2 (some a_p0_sheets_2)) 3 (some a_p0_sheets_3))))))), (a_p0_sheets_0, .inr (7, [.int i_p0_sheets_0_lane, .int i_p0_sheets_0_size, .ref a_p0_sheets_0_cells])), (a_p0_sheets_1, .inr (7, [.int i_p0_sheets_1_lane, .int i_p0_sheets_1_size, .ref a_p0_sheets_1_cells])), (a_p0_sheets_2, .inr (7, [.int i_p0_sheets_2_lane, .int i_p0_sheets_2_size, .ref a_p0_sheets_2_cells])), (a_p0_sheets_3, .inr (7, [.int i_p0_sheets_3_lane, .int i_p0_sheets_3_size, .ref a_p0_sheets_3_cells]))]) (va_runV (As := []) (rest := []) ⟨hx, hb, hml, hown, hts⟩ (c_X11_piecesInPot (l := l) (D := D) (G := G) (sz := H.size) (a_p0 := a_p0) (a_p0_rules := a_p0_rules) (a_p0_state := a_p0_state) (a_p0_tape := a_p0_tape) (a_p0_reader := a_p0_reader) (a_p0_kitchen := a_p0_kitchen) (a_p0_luck := a_p0_luck) (a_p0_plans := a_p0_plans) (a_p0_coups := a_p0_coups) (a_p0_past := a_p0_past) (a_p0_fairDays := a_p0_fairDays) (a_p0_images := a_p0_images) (a_p0_imageHeld := a_p0_imageHeld) (a_p0_sheets := a_p0_sheets) (a_p0_rules_need := a_p0_rules_need) (a_p0_rules_kind := a_p0_rules_kind) (a_p0_rules_first := a_p0_rules_first) (a_p0_rules_second := a_p0_rules_second) (a_p0_rules_after := a_p0_rules_after) (a_p0_state_pieces := a_p0_state_pieces) (a_p0_state_friends := a_p0_state_friends) (a_p0_state_spoons := a_p0_state_spoons) (a_p0_state_eaten := a_p0_state_eaten) (a_p0_state_seen := a_p0_state_seen) (i_p0_latestFault := i_p0_latestFault) (i_p0_latestTear := i_p0_latestTear) (i_p0_rules_seats := i_p0_rules_seats) (i_p0_rules_stirs := i_p0_rules_stirs) (i_p0_state_seenDays := i_p0_state_seenDays) (i_p0_state_bone := i_p0_state_bone) (i_p0_state_king := i_p0_state_king) (i_p0_state_days := i_p0_state_days) (v_p0_state_pieces := v_p0_state_pieces) (r := z9) (hf := hcall)) (cwV 0 hts gX11_count_X11_piecesInPot rfl rfl rfl (by decide +kernel) ⟨Nat.le_of_ble_eq_true rfl, Nat.le_of_ble_eq_true rfl⟩) (preG_V (ci := 11) (hP.sub [0, 1, 2, 3] rfl) (hD.sub [0, 1, 2, 3] rfl rfl) hK rfl rfl) rfl rfl hl.1 rfl (lv_room (Nat.le_of_ble_eq_true rfl)) dX11_count_110 ⟨Nat.le_of_ble_eq_true rfl, Nat.le_of_ble_eq_true rfl⟩) hP hD hS hA [0, 1, 2, 3] [4, 5, 6, 7, 8, 9, 10] [7, 8, 9, 10, 0, 1, 2, 3, 4, 5, 6] rfl rfl rfl (by decide) rfl rfl rfl (fun H locs hP hD hS => ?_)
    clear hcall
    obtain rfl := ou1 hf
    rw [hQ]
    exact W.iret hx hb hr (fun t ht hW => ⟨⟨_, (), rfl, rfl, by rw [ht]; exact hP, va_K.moved hW.alike hK, hD⟩, hS.F ht⟩) hS.2.2 dX11_count_113
  replace hf := ite_f hk8 hf
  have thk1 := tsw_ne hk1
  have thk2 := tsw_ne hk2
  have thk5 := tsw_ne hk5
  have thk6 := tsw_ne hk6
  have thk8 := tsw_ne hk8
  rw [show ((0 : Int32)).toInt = 0 from by decide] at thk1
  rw [show ((1 : Int32)).toInt = 1 from by decide] at thk2
  rw [show ((2 : Int32)).toInt = 2 from by decide] at thk5
  rw [show ((3 : Int32)).toInt = 3 from by decide] at thk6
  rw [show ((4 : Int32)).toInt = 4 from by decide] at thk8
  refine lv_tableOut (tgt := 114) hx hb dX11_count_1 (by omega) (by decide) ?_
  clear thk1 thk2 thk5 thk6 thk8 hk1 hk2 hk5 hk6 hk8
  refine lv_iconst (v := (-1 : Int32)) hx hb dX11_count_114 (by decide) ?_
  obtain rfl := ou1 hf
  rw [hQ]
  exact W.iret hx hb hr (fun t ht hW => ⟨⟨_, (), rfl, rfl, by rw [ht]; exact hP, va_K.moved hW.alike hK, hD⟩, hS.F ht⟩) hS.2.2 dX11_count_115

noncomputable def f_X12_in (x0 : Int64) (x2 : Int64) (x4 : Int64) : Option (Int32) := (if (lg_cmp x0 x2) < 0 then (some (0 : Int32)) else (if 0 < (lg_cmp x0 x4) then (some (0 : Int32)) else (some (1 : Int32))))
abbrev rm_X12_in : Room := { frames := 0, cells := 0, slots := 0, locals := 0 }
set_option maxHeartbeats 8000000 in
set_option maxRecDepth 100000 in
theorem c_X12_in (l : Launch) (D : va_G) (G : Nat → ClassId) (sz : Nat) (x0 : Int64) (x2 : Int64) (x4 : Int64) (r : Int32) (hf : f_X12_in x0 x2 x4 = some r) : Met l yX12_in wsX12_in rm_X12_in (pcG D G [.long x0, .long x2, .long x4] sz []) (qcI D G r [] (va_A [] sz)) 0 0 (va_A [] sz) := by
  refine Met.ofW (cc := cX12_in) (maxL := 6) (ret := (some .boolean)) (by decide) rfl ?_
  intro p e s m args below meth c s₁ B hml hv
  obtain ⟨rfl, hsz, hP, hK, hD0⟩ := hv
  have hx := B.exec
  have hb := B.bytes
  have hr := B.returns
  have hts := atoms_spec (ws := wsX12_in) B.pre
  have hown : s.vm.findClass RX12 = some m.cls := findClass_of_methodNamed B.named
  have hlocks := B.notSynchronized
  subst hsz
  have hD := hD0.self (sz := s.heap.size)
  generalize hAe : va_A [] s.heap.size = A at hD ⊢
  have hA : ∀ q : Nat, s.heap.size ≤ q → A q := fun q h => by rw [← hAe]; exact Or.inr h
  clear hAe hD0
  have hS : va_S A s.heap s.heap [] := va_S.rf
  have hl := lv_entry ([.long x0, .long x2, .long x4]) (n := 6) (Nat.le_of_ble_eq_true rfl)
  rw [lg_entry_eq]
  generalize (lg_sl ([.long x0, .long x2, .long x4]) ++ List.replicate (6 - (lg_sl ([.long x0, .long x2, .long x4])).length) Slot.unset).toArray = ls at hl ⊢
  have hl : lv_has ls 6 [(0, .long x0), (2, .long x2), (4, .long x4)] := hl
  refine W_nameQ (fun Q hQ => ?_)
  obtain ⟨H, hH⟩ : ∃ H, H = s.heap := ⟨_, rfl⟩
  replace hS : va_S A s.heap H [] := by rw [hH]; exact hS
  replace hP : va_P D vwCl [] H := by rw [hH]; exact hP
  rw [← hH]
  clear hH
  unfold f_X12_in at hf
  refine lv_lload_n hx hb dX12_in_0 rfl (lv_at hl 0 rfl) ?_
  refine lv_lload_n hx hb dX12_in_1 rfl (lv_at hl 1 rfl) ?_
  refine W.lcmp hx hb dX12_in_2 ?_
  refine lv_if_lt (tgt := 17) hx hb dX12_in_3 (by decide) (fun cc => ?_) (fun cc => ?_)
  ·
    replace hf := ite_t cc hf
    clear cc
    refine lv_iconst (v := (0 : Int32)) hx hb dX12_in_17 (by decide) ?_
    obtain rfl := ou1 hf
    rw [hQ]
    exact W.zret hx hb hr rfl (fun t ht hW => ⟨⟨_, (), rfl, rfl, by rw [ht]; exact hP, va_K.moved hW.alike hK, hD⟩, hS.F ht⟩) hS.2.2 dX12_in_18
  ·
    replace hf := ite_f cc hf
    clear cc
    refine lv_lload_n hx hb dX12_in_6 rfl (lv_at hl 0 rfl) ?_
    refine lv_lload hx hb dX12_in_7 (lv_at hl 2 rfl) ?_
    refine W.lcmp hx hb dX12_in_9 ?_
    refine lv_if_gt (tgt := 17) hx hb dX12_in_10 (by decide) (fun cc => ?_) (fun cc => ?_)
    ·
      replace hf := ite_t cc hf
      clear cc
      refine lv_iconst (v := (0 : Int32)) hx hb dX12_in_17 (by decide) ?_
      obtain rfl := ou1 hf
      rw [hQ]
      exact W.zret hx hb hr rfl (fun t ht hW => ⟨⟨_, (), rfl, rfl, by rw [ht]; exact hP, va_K.moved hW.alike hK, hD⟩, hS.F ht⟩) hS.2.2 dX12_in_18
    ·
      replace hf := ite_f cc hf
      clear cc
      refine lv_iconst (v := (1 : Int32)) hx hb dX12_in_13 (by decide) ?_
      refine lv_goto (tgt := 18) hx hb dX12_in_14 (by decide) ?_
      obtain rfl := ou1 hf
      rw [hQ]
      exact W.zret hx hb hr rfl (fun t ht hW => ⟨⟨_, (), rfl, rfl, by rw [ht]; exact hP, va_K.moved hW.alike hK, hD⟩, hS.F ht⟩) hS.2.2 dX12_in_18

noncomputable def f_X12_flag (x0 : Int32) : Option (Int32) := (if x0 = 0 then (some (0 : Int32)) else (some (1 : Int32)))
abbrev rm_X12_flag : Room := { frames := 0, cells := 0, slots := 0, locals := 0 }
set_option maxHeartbeats 8000000 in
set_option maxRecDepth 100000 in
theorem c_X12_flag (l : Launch) (D : va_G) (G : Nat → ClassId) (sz : Nat) (x0 : Int32) (r : Int32) (hf : f_X12_flag x0 = some r) : Met l yX12_flag wsX12_flag rm_X12_flag (pcG D G [.int x0] sz []) (qcI D G r [] (va_A [] sz)) 0 0 (va_A [] sz) := by
  refine Met.ofW (cc := cX12_flag) (maxL := 1) (ret := (some .int)) (by decide) rfl ?_
  intro p e s m args below meth c s₁ B hml hv
  obtain ⟨rfl, hsz, hP, hK, hD0⟩ := hv
  have hx := B.exec
  have hb := B.bytes
  have hr := B.returns
  have hts := atoms_spec (ws := wsX12_flag) B.pre
  have hown : s.vm.findClass RX12 = some m.cls := findClass_of_methodNamed B.named
  have hlocks := B.notSynchronized
  subst hsz
  have hD := hD0.self (sz := s.heap.size)
  generalize hAe : va_A [] s.heap.size = A at hD ⊢
  have hA : ∀ q : Nat, s.heap.size ≤ q → A q := fun q h => by rw [← hAe]; exact Or.inr h
  clear hAe hD0
  have hS : va_S A s.heap s.heap [] := va_S.rf
  have hl := lv_entry ([.int x0]) (n := 1) (Nat.le_of_ble_eq_true rfl)
  rw [lg_entry_eq]
  generalize (lg_sl ([.int x0]) ++ List.replicate (1 - (lg_sl ([.int x0])).length) Slot.unset).toArray = ls at hl ⊢
  have hl : lv_has ls 1 [(0, .int x0)] := hl
  refine W_nameQ (fun Q hQ => ?_)
  obtain ⟨H, hH⟩ : ∃ H, H = s.heap := ⟨_, rfl⟩
  replace hS : va_S A s.heap H [] := by rw [hH]; exact hS
  replace hP : va_P D vwCl [] H := by rw [hH]; exact hP
  rw [← hH]
  clear hH
  unfold f_X12_flag at hf
  refine lv_iload_n hx hb dX12_flag_0 rfl (lv_at hl 0 rfl) ?_
  refine lv_if_eq (tgt := 8) hx hb dX12_flag_1 (by decide) (fun cc => ?_) (fun cc => ?_)
  ·
    replace hf := ite_t cc hf
    clear cc
    refine lv_iconst (v := (0 : Int32)) hx hb dX12_flag_8 (by decide) ?_
    obtain rfl := ou1 hf
    rw [hQ]
    exact W.iret hx hb hr (fun t ht hW => ⟨⟨_, (), rfl, rfl, by rw [ht]; exact hP, va_K.moved hW.alike hK, hD⟩, hS.F ht⟩) hS.2.2 dX12_flag_9
  ·
    replace hf := ite_f cc hf
    clear cc
    refine lv_iconst (v := (1 : Int32)) hx hb dX12_flag_4 (by decide) ?_
    refine lv_goto (tgt := 9) hx hb dX12_flag_5 (by decide) ?_
    obtain rfl := ou1 hf
    rw [hQ]
    exact W.iret hx hb hr (fun t ht hW => ⟨⟨_, (), rfl, rfl, by rw [ht]; exact hP, va_K.moved hW.alike hK, hD⟩, hS.F ht⟩) hS.2.2 dX12_flag_9

noncomputable def B_X12_firstDraft_39 (J6 : (Nat → Int32) → Option (Int32 × Int32 × Int32 × Int32 × (Nat → Int32) × (Nat → Int32))) (again39 : Int32 → (Nat → Int32) → Option (Int32 × Int32 × Int32 × Int32 × (Nat → Int32) × (Nat → Int32))) (z11 : Int32) (w12 : (Nat → Int32)) : Option (Int32 × Int32 × Int32 × Int32 × (Nat → Int32) × (Nat → Int32)) := (if (7 : Int32) ≤ z11 then (J6 w12) else (ck (ixB z11 7) (bnd (upd w12 (z11).toNatClampNeg (0 : Int32)) (fun (w14 : (Nat → Int32)) => (bnd (z11 + (1 : Int32)) (fun (z15 : Int32) => (again39 z15 w14)))))))
noncomputable def B_X12_firstDraft_2 (J3 : (Nat → Int32) → Option (Int32 × Int32 × Int32 × Int32 × (Nat → Int32) × (Nat → Int32))) (again2 : Int32 → (Nat → Int32) → Option (Int32 × Int32 × Int32 × Int32 × (Nat → Int32) × (Nat → Int32))) (z16 : Int32) (w17 : (Nat → Int32)) : Option (Int32 × Int32 × Int32 × Int32 × (Nat → Int32) × (Nat → Int32)) := (if (38 : Int32) ≤ z16 then (J3 w17) else (if z16 < (16 : Int32) then (ck (ixB z16 38) (bnd (upd w17 (z16).toNatClampNeg (0 : Int32)) (fun (w19 : (Nat → Int32)) => (bnd (z16 + (1 : Int32)) (fun (z20 : Int32) => (again2 z20 w19)))))) else (if (23 : Int32) ≤ z16 then (ck (ixB z16 38) (bnd (upd w17 (z16).toNatClampNeg (0 : Int32)) (fun (w21 : (Nat → Int32)) => (bnd (z16 + (1 : Int32)) (fun (z22 : Int32) => (again2 z22 w21)))))) else (ck (ixB z16 38) (bnd (upd w17 (z16).toNatClampNeg (1 : Int32)) (fun (w23 : (Nat → Int32)) => (bnd (z16 + (1 : Int32)) (fun (z24 : Int32) => (again2 z24 w23)))))))))
noncomputable def f_X12_firstDraft (v_p0_draft : (Nat → Int32)) (v_p0_dNeed : (Nat → Int32)) : Option (Int32 × Int32 × Int32 × Int32 × (Nat → Int32) × (Nat → Int32)) := (bnd (0 : Int32) (fun (z1 : Int32) => (jn (fun (w2 : (Nat → Int32)) => (bnd (0 : Int32) (fun (z4 : Int32) => (jn (fun (w5 : (Nat → Int32)) => (bnd (4 : Int32) (fun (z7 : Int32) => (bnd (0 : Int32) (fun (z8 : Int32) => (bnd (0 : Int32) (fun (z9 : Int32) => (bnd (-4 : Int32) (fun (z10 : Int32) => (some (z7, z8, z9, z10, w2, w5))))))))))) (fun (J6 : (Nat → Int32) → Option (Int32 × Int32 × Int32 × Int32 × (Nat → Int32) × (Nat → Int32))) => (lq2 (B_X12_firstDraft_39 J6) 1000 z4 v_p0_dNeed)))))) (fun (J3 : (Nat → Int32) → Option (Int32 × Int32 × Int32 × Int32 × (Nat → Int32) × (Nat → Int32))) => (lq2 (B_X12_firstDraft_2 J3) 1000 z1 v_p0_draft)))))
abbrev rm_X12_firstDraft : Room := { frames := 0, cells := 0, slots := 0, locals := 0 }
theorem inX12_firstDraft_X12 : ∀ w ∈ wsX120, w ∈ wsX12_firstDraft := by decide +kernel
theorem mwX12_firstDraft_1 : Cond.fieldLink RX12 87 "LadleKingsModel" "dSeats" "I" ∈ wsX12_firstDraft := by decide +kernel
theorem mwX12_firstDraft_2 : Cond.fieldLink RX12 91 "LadleKingsModel" "dStirs" "I" ∈ wsX12_firstDraft := by decide +kernel
theorem mwX12_firstDraft_3 : Cond.fieldLink RX12 94 "LadleKingsModel" "told" "I" ∈ wsX12_firstDraft := by decide +kernel
theorem mwX12_firstDraft_4 : Cond.fieldLink RX12 97 "LadleKingsModel" "highest" "I" ∈ wsX12_firstDraft := by decide +kernel
theorem mwX12_firstDraft_5 : Cond.fieldLink RX12 29 "LadleKingsModel" "dNeed" "[I" ∈ wsX12_firstDraft := by decide +kernel
theorem mwX12_firstDraft_6 : Cond.fieldLink RX12 23 "LadleKingsModel" "draft" "[I" ∈ wsX12_firstDraft := by decide +kernel
set_option maxHeartbeats 8000000 in
set_option maxRecDepth 100000 in
theorem c_X12_firstDraft (l : Launch) (D : va_G) (G : Nat → ClassId) (sz : Nat) (a_p0 : Nat) (a_p0_st : Nat) (a_p0_isKept : Nat) (a_p0_brings : Nat) (a_p0_need : Nat) (a_p0_draft : Nat) (a_p0_dStir : Nat) (a_p0_dNeed : Nat) (a_p0_tape : Nat) (a_p0_places : Nat) (a_p0_stirred : Nat) (a_p0_ways : Nat) (a_p0_waysThen : Nat) (a_p0_stays : Nat) (a_p0_fewest : Nat) (a_p0_bowls : Nat) (a_p0_has : Nat) (a_p0_goesOn : Nat) (a_p0_isThere : Nat) (a_p0_isThereThen : Nat) (a_p0_bestRow : Nat) (a_p0_lanes : Nat) (a_p0_sizes : Nat) (a_p0_cells : Nat) (i_p0_seats : Int32) (i_p0_stirs : Int32) (i_p0_dSeats : Int32) (i_p0_dStirs : Int32) (i_p0_told : Int32) (i_p0_highest : Int32) (i_p0_taped : Int32) (i_p0_pos : Int32) (i_p0_from : Int32) (i_p0_sort : Int32) (i_p0_value : Int32) (i_p0_fault : Int32) (i_p0_wrongAt : Int32) (i_p0_torn : Int32) (v_p0_draft : (Nat → Int32)) (v_p0_dNeed : (Nat → Int32)) (o_i_p0_dSeats : Int32) (o_i_p0_dStirs : Int32) (o_i_p0_told : Int32) (o_i_p0_highest : Int32) (o_v_p0_draft : (Nat → Int32)) (o_v_p0_dNeed : (Nat → Int32)) (hf : f_X12_firstDraft v_p0_draft v_p0_dNeed = some (o_i_p0_dSeats, o_i_p0_dStirs, o_i_p0_told, o_i_p0_highest, o_v_p0_draft, o_v_p0_dNeed)) : Met l yX12_firstDraft wsX12_firstDraft rm_X12_firstDraft (pcG D G [.ref a_p0] sz [(a_p0, .inr (12, [.ref a_p0_st, .ref a_p0_isKept, .int i_p0_seats, .int i_p0_stirs, .ref a_p0_brings, .ref a_p0_need, .ref a_p0_draft, .int i_p0_dSeats, .int i_p0_dStirs, .ref a_p0_dStir, .ref a_p0_dNeed, .int i_p0_told, .int i_p0_highest, .ref a_p0_tape, .int i_p0_taped, .int i_p0_pos, .int i_p0_from, .int i_p0_sort, .int i_p0_value, .int i_p0_fault, .int i_p0_wrongAt, .ref a_p0_places, .ref a_p0_stirred, .ref a_p0_ways, .ref a_p0_waysThen, .ref a_p0_stays, .ref a_p0_fewest, .ref a_p0_bowls, .ref a_p0_has, .ref a_p0_goesOn, .ref a_p0_isThere, .ref a_p0_isThereThen, .ref a_p0_bestRow, .ref a_p0_lanes, .ref a_p0_sizes, .ref a_p0_cells, .int i_p0_torn])), (a_p0_draft, .inl (G 1, 38, .inl v_p0_draft)), (a_p0_dNeed, .inl (G 1, 7, .inl v_p0_dNeed))]) (qcV D G [(a_p0, .inr (12, [.ref a_p0_st, .ref a_p0_isKept, .int i_p0_seats, .int i_p0_stirs, .ref a_p0_brings, .ref a_p0_need, .ref a_p0_draft, .int o_i_p0_dSeats, .int o_i_p0_dStirs, .ref a_p0_dStir, .ref a_p0_dNeed, .int o_i_p0_told, .int o_i_p0_highest, .ref a_p0_tape, .int i_p0_taped, .int i_p0_pos, .int i_p0_from, .int i_p0_sort, .int i_p0_value, .int i_p0_fault, .int i_p0_wrongAt, .ref a_p0_places, .ref a_p0_stirred, .ref a_p0_ways, .ref a_p0_waysThen, .ref a_p0_stays, .ref a_p0_fewest, .ref a_p0_bowls, .ref a_p0_has, .ref a_p0_goesOn, .ref a_p0_isThere, .ref a_p0_isThereThen, .ref a_p0_bestRow, .ref a_p0_lanes, .ref a_p0_sizes, .ref a_p0_cells, .int i_p0_torn])), (a_p0_draft, .inl (G 1, 38, .inl o_v_p0_draft)), (a_p0_dNeed, .inl (G 1, 7, .inl o_v_p0_dNeed))] (va_A [(a_p0, .inr (12, [.ref a_p0_st, .ref a_p0_isKept, .int i_p0_seats, .int i_p0_stirs, .ref a_p0_brings, .ref a_p0_need, .ref a_p0_draft, .int i_p0_dSeats, .int i_p0_dStirs, .ref a_p0_dStir, .ref a_p0_dNeed, .int i_p0_told, .int i_p0_highest, .ref a_p0_tape, .int i_p0_taped, .int i_p0_pos, .int i_p0_from, .int i_p0_sort, .int i_p0_value, .int i_p0_fault, .int i_p0_wrongAt, .ref a_p0_places, .ref a_p0_stirred, .ref a_p0_ways, .ref a_p0_waysThen, .ref a_p0_stays, .ref a_p0_fewest, .ref a_p0_bowls, .ref a_p0_has, .ref a_p0_goesOn, .ref a_p0_isThere, .ref a_p0_isThereThen, .ref a_p0_bestRow, .ref a_p0_lanes, .ref a_p0_sizes, .ref a_p0_cells, .int i_p0_torn])), (a_p0_draft, .inl (G 1, 38, .inl v_p0_draft)), (a_p0_dNeed, .inl (G 1, 7, .inl v_p0_dNeed))] sz)) 0 0 (va_A [(a_p0, .inr (12, [.ref a_p0_st, .ref a_p0_isKept, .int i_p0_seats, .int i_p0_stirs, .ref a_p0_brings, .ref a_p0_need, .ref a_p0_draft, .int i_p0_dSeats, .int i_p0_dStirs, .ref a_p0_dStir, .ref a_p0_dNeed, .int i_p0_told, .int i_p0_highest, .ref a_p0_tape, .int i_p0_taped, .int i_p0_pos, .int i_p0_from, .int i_p0_sort, .int i_p0_value, .int i_p0_fault, .int i_p0_wrongAt, .ref a_p0_places, .ref a_p0_stirred, .ref a_p0_ways, .ref a_p0_waysThen, .ref a_p0_stays, .ref a_p0_fewest, .ref a_p0_bowls, .ref a_p0_has, .ref a_p0_goesOn, .ref a_p0_isThere, .ref a_p0_isThereThen, .ref a_p0_bestRow, .ref a_p0_lanes, .ref a_p0_sizes, .ref a_p0_cells, .int i_p0_torn])), (a_p0_draft, .inl (G 1, 38, .inl v_p0_draft)), (a_p0_dNeed, .inl (G 1, 7, .inl v_p0_dNeed))] sz) := by
  refine Met.ofW (cc := cX12_firstDraft) (maxL := 2) (ret := none) (by decide) rfl ?_
  intro p e s m args below meth c s₁ B hml hv
  obtain ⟨rfl, hsz, hP, hK, hD0⟩ := hv
  have hx := B.exec
  have hb := B.bytes
  have hr := B.returns
  have hts := atoms_spec (ws := wsX12_firstDraft) B.pre
  have hown : s.vm.findClass RX12 = some m.cls := findClass_of_methodNamed B.named
  have hlocks := B.notSynchronized
  subst hsz
  have hD := hD0.self (sz := s.heap.size)
  generalize hAe : va_A [(a_p0, .inr (12, [.ref a_p0_st, .ref a_p0_isKept, .int i_p0_seats, .int i_p0_stirs, .ref a_p0_brings, .ref a_p0_need, .ref a_p0_draft, .int i_p0_dSeats, .int i_p0_dStirs, .ref a_p0_dStir, .ref a_p0_dNeed, .int i_p0_told, .int i_p0_highest, .ref a_p0_tape, .int i_p0_taped, .int i_p0_pos, .int i_p0_from, .int i_p0_sort, .int i_p0_value, .int i_p0_fault, .int i_p0_wrongAt, .ref a_p0_places, .ref a_p0_stirred, .ref a_p0_ways, .ref a_p0_waysThen, .ref a_p0_stays, .ref a_p0_fewest, .ref a_p0_bowls, .ref a_p0_has, .ref a_p0_goesOn, .ref a_p0_isThere, .ref a_p0_isThereThen, .ref a_p0_bestRow, .ref a_p0_lanes, .ref a_p0_sizes, .ref a_p0_cells, .int i_p0_torn])), (a_p0_draft, .inl (G 1, 38, .inl v_p0_draft)), (a_p0_dNeed, .inl (G 1, 7, .inl v_p0_dNeed))] s.heap.size = A at hD ⊢
  have hA : ∀ q : Nat, s.heap.size ≤ q → A q := fun q h => by rw [← hAe]; exact Or.inr h
  clear hAe hD0
  have hS : va_S A s.heap s.heap [] := va_S.rf
  have hl := lv_entry ([.ref a_p0]) (n := 2) (Nat.le_of_ble_eq_true rfl)
  rw [lg_entry_eq]
  generalize (lg_sl ([.ref a_p0]) ++ List.replicate (2 - (lg_sl ([.ref a_p0])).length) Slot.unset).toArray = ls at hl ⊢
  have hl : lv_has ls 2 [(0, .ref a_p0)] := hl
  refine W_nameQ (fun Q hQ => ?_)
  obtain ⟨H, hH⟩ : ∃ H, H = s.heap := ⟨_, rfl⟩
  replace hS : va_S A s.heap H [] := by rw [hH]; exact hS
  replace hP : va_P D vwCl [(a_p0, .inr (12, [.ref a_p0_st, .ref a_p0_isKept, .int i_p0_seats, .int i_p0_stirs, .ref a_p0_brings, .ref a_p0_need, .ref a_p0_draft, .int i_p0_dSeats, .int i_p0_dStirs, .ref a_p0_dStir, .ref a_p0_dNeed, .int i_p0_told, .int i_p0_highest, .ref a_p0_tape, .int i_p0_taped, .int i_p0_pos, .int i_p0_from, .int i_p0_sort, .int i_p0_value, .int i_p0_fault, .int i_p0_wrongAt, .ref a_p0_places, .ref a_p0_stirred, .ref a_p0_ways, .ref a_p0_waysThen, .ref a_p0_stays, .ref a_p0_fewest, .ref a_p0_bowls, .ref a_p0_has, .ref a_p0_goesOn, .ref a_p0_isThere, .ref a_p0_isThereThen, .ref a_p0_bestRow, .ref a_p0_lanes, .ref a_p0_sizes, .ref a_p0_cells, .int i_p0_torn])), (a_p0_draft, .inl (G 1, 38, .inl v_p0_draft)), (a_p0_dNeed, .inl (G 1, 7, .inl v_p0_dNeed))] H := by rw [hH]; exact hP
  rw [← hH]
  clear hH
  unfold f_X12_firstDraft at hf
  refine lv_iconst (v := (0 : Int32)) hx hb dX12_firstDraft_0 (by decide) ?_
  refine lv_topi (fun z1 ez => ?_)
  replace hf := bnd_s hf ez
  clear ez
  refine lv_istore_n (lv' := [(1, .int z1), (0, .ref a_p0)]) hx hb dX12_firstDraft_1 rfl hl (by decide) rfl (fun ls hl => ?_)
  have hq := jn_i hf
  clear hf
  obtain ⟨J3, eJ3, hf⟩ := hq
  have hJ3 : ∀ (w2 : (Nat → Int32)) (ls : Array Slot) (H : Heap) (locs : List Loc), lv_has ls 2 [(0, .ref a_p0)] → va_P D vwCl [(a_p0, .inr (12, [.ref a_p0_st, .ref a_p0_isKept, .int i_p0_seats, .int i_p0_stirs, .ref a_p0_brings, .ref a_p0_need, .ref a_p0_draft, .int i_p0_dSeats, .int i_p0_dStirs, .ref a_p0_dStir, .ref a_p0_dNeed, .int i_p0_told, .int i_p0_highest, .ref a_p0_tape, .int i_p0_taped, .int i_p0_pos, .int i_p0_from, .int i_p0_sort, .int i_p0_value, .int i_p0_fault, .int i_p0_wrongAt, .ref a_p0_places, .ref a_p0_stirred, .ref a_p0_ways, .ref a_p0_waysThen, .ref a_p0_stays, .ref a_p0_fewest, .ref a_p0_bowls, .ref a_p0_has, .ref a_p0_goesOn, .ref a_p0_isThere, .ref a_p0_isThereThen, .ref a_p0_bestRow, .ref a_p0_lanes, .ref a_p0_sizes, .ref a_p0_cells, .int i_p0_torn])), (a_p0_draft, .inl (G 1, 38, .inl w2)), (a_p0_dNeed, .inl (G 1, 7, .inl v_p0_dNeed))] H → va_D A [(a_p0, .inr (12, [.ref a_p0_st, .ref a_p0_isKept, .int i_p0_seats, .int i_p0_stirs, .ref a_p0_brings, .ref a_p0_need, .ref a_p0_draft, .int i_p0_dSeats, .int i_p0_dStirs, .ref a_p0_dStir, .ref a_p0_dNeed, .int i_p0_told, .int i_p0_highest, .ref a_p0_tape, .int i_p0_taped, .int i_p0_pos, .int i_p0_from, .int i_p0_sort, .int i_p0_value, .int i_p0_fault, .int i_p0_wrongAt, .ref a_p0_places, .ref a_p0_stirred, .ref a_p0_ways, .ref a_p0_waysThen, .ref a_p0_stays, .ref a_p0_fewest, .ref a_p0_bowls, .ref a_p0_has, .ref a_p0_goesOn, .ref a_p0_isThere, .ref a_p0_isThereThen, .ref a_p0_bestRow, .ref a_p0_lanes, .ref a_p0_sizes, .ref a_p0_cells, .int i_p0_torn])), (a_p0_draft, .inl (G 1, 38, .inl w2)), (a_p0_dNeed, .inl (G 1, 7, .inl v_p0_dNeed))] → va_S A s.heap H locs → J3 w2 = some (o_i_p0_dSeats, o_i_p0_dStirs, o_i_p0_told, o_i_p0_highest, o_v_p0_draft, o_v_p0_dNeed) → W p l e rm_X12_firstDraft s m ([.ref a_p0] : List Value).toArray below meth c H locs 0 0 Q (F0 m 37 ls []) := by
    clear hf hl hP hD hS
    intro w2 ls H locs hl hP hD hS hf
    replace hf := jn1_s eJ3 hf
    refine lv_iconst (v := (0 : Int32)) hx hb dX12_firstDraft_37 (by decide) ?_
    refine lv_topi (fun z4 ez => ?_)
    replace hf := bnd_s hf ez
    clear ez
    refine lv_istore_n (lv' := [(1, .int z4), (0, .ref a_p0)]) hx hb dX12_firstDraft_38 rfl hl (by decide) rfl (fun ls hl => ?_)
    have hq := jn_i hf
    clear hf
    obtain ⟨J6, eJ6, hf⟩ := hq
    have hJ6 : ∀ (w5 : (Nat → Int32)) (ls : Array Slot) (H : Heap) (locs : List Loc), lv_has ls 2 [(0, .ref a_p0)] → va_P D vwCl [(a_p0, .inr (12, [.ref a_p0_st, .ref a_p0_isKept, .int i_p0_seats, .int i_p0_stirs, .ref a_p0_brings, .ref a_p0_need, .ref a_p0_draft, .int i_p0_dSeats, .int i_p0_dStirs, .ref a_p0_dStir, .ref a_p0_dNeed, .int i_p0_told, .int i_p0_highest, .ref a_p0_tape, .int i_p0_taped, .int i_p0_pos, .int i_p0_from, .int i_p0_sort, .int i_p0_value, .int i_p0_fault, .int i_p0_wrongAt, .ref a_p0_places, .ref a_p0_stirred, .ref a_p0_ways, .ref a_p0_waysThen, .ref a_p0_stays, .ref a_p0_fewest, .ref a_p0_bowls, .ref a_p0_has, .ref a_p0_goesOn, .ref a_p0_isThere, .ref a_p0_isThereThen, .ref a_p0_bestRow, .ref a_p0_lanes, .ref a_p0_sizes, .ref a_p0_cells, .int i_p0_torn])), (a_p0_draft, .inl (G 1, 38, .inl w2)), (a_p0_dNeed, .inl (G 1, 7, .inl w5))] H → va_D A [(a_p0, .inr (12, [.ref a_p0_st, .ref a_p0_isKept, .int i_p0_seats, .int i_p0_stirs, .ref a_p0_brings, .ref a_p0_need, .ref a_p0_draft, .int i_p0_dSeats, .int i_p0_dStirs, .ref a_p0_dStir, .ref a_p0_dNeed, .int i_p0_told, .int i_p0_highest, .ref a_p0_tape, .int i_p0_taped, .int i_p0_pos, .int i_p0_from, .int i_p0_sort, .int i_p0_value, .int i_p0_fault, .int i_p0_wrongAt, .ref a_p0_places, .ref a_p0_stirred, .ref a_p0_ways, .ref a_p0_waysThen, .ref a_p0_stays, .ref a_p0_fewest, .ref a_p0_bowls, .ref a_p0_has, .ref a_p0_goesOn, .ref a_p0_isThere, .ref a_p0_isThereThen, .ref a_p0_bestRow, .ref a_p0_lanes, .ref a_p0_sizes, .ref a_p0_cells, .int i_p0_torn])), (a_p0_draft, .inl (G 1, 38, .inl w2)), (a_p0_dNeed, .inl (G 1, 7, .inl w5))] → va_S A s.heap H locs → J6 w5 = some (o_i_p0_dSeats, o_i_p0_dStirs, o_i_p0_told, o_i_p0_highest, o_v_p0_draft, o_v_p0_dNeed) → W p l e rm_X12_firstDraft s m ([.ref a_p0] : List Value).toArray below meth c H locs 0 0 Q (F0 m 58 ls []) := by
      clear hf hl hP hD hS
      intro w5 ls H locs hl hP hD hS hf
      replace hf := jn1_s eJ6 hf
      refine lv_aload_n hx hb dX12_firstDraft_58 rfl (lv_at hl 0 rfl) ?_
      refine lv_iconst (v := (4 : Int32)) hx hb dX12_firstDraft_59 (by decide) ?_
      refine lv_topi (fun z7 ez => ?_)
      replace hf := bnd_s hf ez
      clear ez
      refine va_put (D := D) (ci := 12) (v := .int z7) (ty := .int) (C := RX12) (T := TX12) (N := 37) hx hb hts inX12_firstDraft_X12 tyX12 tyX12_ok nmX12 hown hK hP hD hS 0 rfl rfl 7 (by decide) (hts _ mwX12_firstDraft_1) (fun _ h9 => h9) rfl (by decide +kernel) rfl rfl (Nat.le_of_ble_eq_true rfl) dX12_firstDraft_60 (fun H locs hP hD hS => ?_)
      have hP : va_P D vwCl [(a_p0, .inr (12, [.ref a_p0_st, .ref a_p0_isKept, .int i_p0_seats, .int i_p0_stirs, .ref a_p0_brings, .ref a_p0_need, .ref a_p0_draft, .int z7, .int i_p0_dStirs, .ref a_p0_dStir, .ref a_p0_dNeed, .int i_p0_told, .int i_p0_highest, .ref a_p0_tape, .int i_p0_taped, .int i_p0_pos, .int i_p0_from, .int i_p0_sort, .int i_p0_value, .int i_p0_fault, .int i_p0_wrongAt, .ref a_p0_places, .ref a_p0_stirred, .ref a_p0_ways, .ref a_p0_waysThen, .ref a_p0_stays, .ref a_p0_fewest, .ref a_p0_bowls, .ref a_p0_has, .ref a_p0_goesOn, .ref a_p0_isThere, .ref a_p0_isThereThen, .ref a_p0_bestRow, .ref a_p0_lanes, .ref a_p0_sizes, .ref a_p0_cells, .int i_p0_torn])), (a_p0_draft, .inl (G 1, 38, .inl w2)), (a_p0_dNeed, .inl (G 1, 7, .inl w5))] H := hP
      have hD : va_D A [(a_p0, .inr (12, [.ref a_p0_st, .ref a_p0_isKept, .int i_p0_seats, .int i_p0_stirs, .ref a_p0_brings, .ref a_p0_need, .ref a_p0_draft, .int z7, .int i_p0_dStirs, .ref a_p0_dStir, .ref a_p0_dNeed, .int i_p0_told, .int i_p0_highest, .ref a_p0_tape, .int i_p0_taped, .int i_p0_pos, .int i_p0_from, .int i_p0_sort, .int i_p0_value, .int i_p0_fault, .int i_p0_wrongAt, .ref a_p0_places, .ref a_p0_stirred, .ref a_p0_ways, .ref a_p0_waysThen, .ref a_p0_stays, .ref a_p0_fewest, .ref a_p0_bowls, .ref a_p0_has, .ref a_p0_goesOn, .ref a_p0_isThere, .ref a_p0_isThereThen, .ref a_p0_bestRow, .ref a_p0_lanes, .ref a_p0_sizes, .ref a_p0_cells, .int i_p0_torn])), (a_p0_draft, .inl (G 1, 38, .inl w2)), (a_p0_dNeed, .inl (G 1, 7, .inl w5))] := hD
      refine lv_aload_n hx hb dX12_firstDraft_63 rfl (lv_at hl 0 rfl) ?_
      refine lv_iconst (v := (0 : Int32)) hx hb dX12_firstDraft_64 (by decide) ?_
      refine lv_topi (fun z8 ez => ?_)
      replace hf := bnd_s hf ez
      clear ez
      refine va_put (D := D) (ci := 12) (v := .int z8) (ty := .int) (C := RX12) (T := TX12) (N := 37) hx hb hts inX12_firstDraft_X12 tyX12 tyX12_ok nmX12 hown hK hP hD hS 0 rfl rfl 8 (by decide) (hts _ mwX12_firstDraft_2) (fun _ h9 => h9) rfl (by decide +kernel) rfl rfl (Nat.le_of_ble_eq_true rfl) dX12_firstDraft_65 (fun H locs hP hD hS => ?_)
      have hP : va_P D vwCl [(a_p0, .inr (12, [.ref a_p0_st, .ref a_p0_isKept, .int i_p0_seats, .int i_p0_stirs, .ref a_p0_brings, .ref a_p0_need, .ref a_p0_draft, .int z7, .int z8, .ref a_p0_dStir, .ref a_p0_dNeed, .int i_p0_told, .int i_p0_highest, .ref a_p0_tape, .int i_p0_taped, .int i_p0_pos, .int i_p0_from, .int i_p0_sort, .int i_p0_value, .int i_p0_fault, .int i_p0_wrongAt, .ref a_p0_places, .ref a_p0_stirred, .ref a_p0_ways, .ref a_p0_waysThen, .ref a_p0_stays, .ref a_p0_fewest, .ref a_p0_bowls, .ref a_p0_has, .ref a_p0_goesOn, .ref a_p0_isThere, .ref a_p0_isThereThen, .ref a_p0_bestRow, .ref a_p0_lanes, .ref a_p0_sizes, .ref a_p0_cells, .int i_p0_torn])), (a_p0_draft, .inl (G 1, 38, .inl w2)), (a_p0_dNeed, .inl (G 1, 7, .inl w5))] H := hP
      have hD : va_D A [(a_p0, .inr (12, [.ref a_p0_st, .ref a_p0_isKept, .int i_p0_seats, .int i_p0_stirs, .ref a_p0_brings, .ref a_p0_need, .ref a_p0_draft, .int z7, .int z8, .ref a_p0_dStir, .ref a_p0_dNeed, .int i_p0_told, .int i_p0_highest, .ref a_p0_tape, .int i_p0_taped, .int i_p0_pos, .int i_p0_from, .int i_p0_sort, .int i_p0_value, .int i_p0_fault, .int i_p0_wrongAt, .ref a_p0_places, .ref a_p0_stirred, .ref a_p0_ways, .ref a_p0_waysThen, .ref a_p0_stays, .ref a_p0_fewest, .ref a_p0_bowls, .ref a_p0_has, .ref a_p0_goesOn, .ref a_p0_isThere, .ref a_p0_isThereThen, .ref a_p0_bestRow, .ref a_p0_lanes, .ref a_p0_sizes, .ref a_p0_cells, .int i_p0_torn])), (a_p0_draft, .inl (G 1, 38, .inl w2)), (a_p0_dNeed, .inl (G 1, 7, .inl w5))] := hD
      refine lv_aload_n hx hb dX12_firstDraft_68 rfl (lv_at hl 0 rfl) ?_
      refine lv_iconst (v := (0 : Int32)) hx hb dX12_firstDraft_69 (by decide) ?_
      refine lv_topi (fun z9 ez => ?_)
      replace hf := bnd_s hf ez
      clear ez
      refine va_put (D := D) (ci := 12) (v := .int z9) (ty := .int) (C := RX12) (T := TX12) (N := 37) hx hb hts inX12_firstDraft_X12 tyX12 tyX12_ok nmX12 hown hK hP hD hS 0 rfl rfl 11 (by decide) (hts _ mwX12_firstDraft_3) (fun _ h9 => h9) rfl (by decide +kernel) rfl rfl (Nat.le_of_ble_eq_true rfl) dX12_firstDraft_70 (fun H locs hP hD hS => ?_)
      have hP : va_P D vwCl [(a_p0, .inr (12, [.ref a_p0_st, .ref a_p0_isKept, .int i_p0_seats, .int i_p0_stirs, .ref a_p0_brings, .ref a_p0_need, .ref a_p0_draft, .int z7, .int z8, .ref a_p0_dStir, .ref a_p0_dNeed, .int z9, .int i_p0_highest, .ref a_p0_tape, .int i_p0_taped, .int i_p0_pos, .int i_p0_from, .int i_p0_sort, .int i_p0_value, .int i_p0_fault, .int i_p0_wrongAt, .ref a_p0_places, .ref a_p0_stirred, .ref a_p0_ways, .ref a_p0_waysThen, .ref a_p0_stays, .ref a_p0_fewest, .ref a_p0_bowls, .ref a_p0_has, .ref a_p0_goesOn, .ref a_p0_isThere, .ref a_p0_isThereThen, .ref a_p0_bestRow, .ref a_p0_lanes, .ref a_p0_sizes, .ref a_p0_cells, .int i_p0_torn])), (a_p0_draft, .inl (G 1, 38, .inl w2)), (a_p0_dNeed, .inl (G 1, 7, .inl w5))] H := hP
      have hD : va_D A [(a_p0, .inr (12, [.ref a_p0_st, .ref a_p0_isKept, .int i_p0_seats, .int i_p0_stirs, .ref a_p0_brings, .ref a_p0_need, .ref a_p0_draft, .int z7, .int z8, .ref a_p0_dStir, .ref a_p0_dNeed, .int z9, .int i_p0_highest, .ref a_p0_tape, .int i_p0_taped, .int i_p0_pos, .int i_p0_from, .int i_p0_sort, .int i_p0_value, .int i_p0_fault, .int i_p0_wrongAt, .ref a_p0_places, .ref a_p0_stirred, .ref a_p0_ways, .ref a_p0_waysThen, .ref a_p0_stays, .ref a_p0_fewest, .ref a_p0_bowls, .ref a_p0_has, .ref a_p0_goesOn, .ref a_p0_isThere, .ref a_p0_isThereThen, .ref a_p0_bestRow, .ref a_p0_lanes, .ref a_p0_sizes, .ref a_p0_cells, .int i_p0_torn])), (a_p0_draft, .inl (G 1, 38, .inl w2)), (a_p0_dNeed, .inl (G 1, 7, .inl w5))] := hD
      refine lv_aload_n hx hb dX12_firstDraft_73 rfl (lv_at hl 0 rfl) ?_
      refine lv_bipush (v := (-4 : Int32)) hx hb dX12_firstDraft_74 (by decide) ?_
      refine lv_topi (fun z10 ez => ?_)
      replace hf := bnd_s hf ez
      clear ez
      refine va_put (D := D) (ci := 12) (v := .int z10) (ty := .int) (C := RX12) (T := TX12) (N := 37) hx hb hts inX12_firstDraft_X12 tyX12 tyX12_ok nmX12 hown hK hP hD hS 0 rfl rfl 12 (by decide) (hts _ mwX12_firstDraft_4) (fun _ h9 => h9) rfl (by decide +kernel) rfl rfl (Nat.le_of_ble_eq_true rfl) dX12_firstDraft_76 (fun H locs hP hD hS => ?_)
      have hP : va_P D vwCl [(a_p0, .inr (12, [.ref a_p0_st, .ref a_p0_isKept, .int i_p0_seats, .int i_p0_stirs, .ref a_p0_brings, .ref a_p0_need, .ref a_p0_draft, .int z7, .int z8, .ref a_p0_dStir, .ref a_p0_dNeed, .int z9, .int z10, .ref a_p0_tape, .int i_p0_taped, .int i_p0_pos, .int i_p0_from, .int i_p0_sort, .int i_p0_value, .int i_p0_fault, .int i_p0_wrongAt, .ref a_p0_places, .ref a_p0_stirred, .ref a_p0_ways, .ref a_p0_waysThen, .ref a_p0_stays, .ref a_p0_fewest, .ref a_p0_bowls, .ref a_p0_has, .ref a_p0_goesOn, .ref a_p0_isThere, .ref a_p0_isThereThen, .ref a_p0_bestRow, .ref a_p0_lanes, .ref a_p0_sizes, .ref a_p0_cells, .int i_p0_torn])), (a_p0_draft, .inl (G 1, 38, .inl w2)), (a_p0_dNeed, .inl (G 1, 7, .inl w5))] H := hP
      have hD : va_D A [(a_p0, .inr (12, [.ref a_p0_st, .ref a_p0_isKept, .int i_p0_seats, .int i_p0_stirs, .ref a_p0_brings, .ref a_p0_need, .ref a_p0_draft, .int z7, .int z8, .ref a_p0_dStir, .ref a_p0_dNeed, .int z9, .int z10, .ref a_p0_tape, .int i_p0_taped, .int i_p0_pos, .int i_p0_from, .int i_p0_sort, .int i_p0_value, .int i_p0_fault, .int i_p0_wrongAt, .ref a_p0_places, .ref a_p0_stirred, .ref a_p0_ways, .ref a_p0_waysThen, .ref a_p0_stays, .ref a_p0_fewest, .ref a_p0_bowls, .ref a_p0_has, .ref a_p0_goesOn, .ref a_p0_isThere, .ref a_p0_isThereThen, .ref a_p0_bestRow, .ref a_p0_lanes, .ref a_p0_sizes, .ref a_p0_cells, .int i_p0_torn])), (a_p0_draft, .inl (G 1, 38, .inl w2)), (a_p0_dNeed, .inl (G 1, 7, .inl w5))] := hD
      obtain ⟨rfl, rfl, rfl, rfl, rfl, rfl⟩ := ou6 hf
      rw [hQ]
      exact W.vret hx hb hr (fun t ht hW => ⟨⟨(), rfl, trivial, by rw [ht]; exact hP, va_K.moved hW.alike hK, hD⟩, hS.F ht⟩) hS.2.2 dX12_firstDraft_79
    have hq := lq2_i hf
    clear hf
    obtain ⟨B13, eB13, NB13, hf⟩ := hq
    have hB13 : ∀ (n : Nat) (z11 : Int32) (w12 : (Nat → Int32)) (ls : Array Slot) (H : Heap) (locs : List Loc), lv_has ls 2 [(1, .int z11), (0, .ref a_p0)] → va_P D vwCl [(a_p0, .inr (12, [.ref a_p0_st, .ref a_p0_isKept, .int i_p0_seats, .int i_p0_stirs, .ref a_p0_brings, .ref a_p0_need, .ref a_p0_draft, .int i_p0_dSeats, .int i_p0_dStirs, .ref a_p0_dStir, .ref a_p0_dNeed, .int i_p0_told, .int i_p0_highest, .ref a_p0_tape, .int i_p0_taped, .int i_p0_pos, .int i_p0_from, .int i_p0_sort, .int i_p0_value, .int i_p0_fault, .int i_p0_wrongAt, .ref a_p0_places, .ref a_p0_stirred, .ref a_p0_ways, .ref a_p0_waysThen, .ref a_p0_stays, .ref a_p0_fewest, .ref a_p0_bowls, .ref a_p0_has, .ref a_p0_goesOn, .ref a_p0_isThere, .ref a_p0_isThereThen, .ref a_p0_bestRow, .ref a_p0_lanes, .ref a_p0_sizes, .ref a_p0_cells, .int i_p0_torn])), (a_p0_draft, .inl (G 1, 38, .inl w2)), (a_p0_dNeed, .inl (G 1, 7, .inl w12))] H → va_D A [(a_p0, .inr (12, [.ref a_p0_st, .ref a_p0_isKept, .int i_p0_seats, .int i_p0_stirs, .ref a_p0_brings, .ref a_p0_need, .ref a_p0_draft, .int i_p0_dSeats, .int i_p0_dStirs, .ref a_p0_dStir, .ref a_p0_dNeed, .int i_p0_told, .int i_p0_highest, .ref a_p0_tape, .int i_p0_taped, .int i_p0_pos, .int i_p0_from, .int i_p0_sort, .int i_p0_value, .int i_p0_fault, .int i_p0_wrongAt, .ref a_p0_places, .ref a_p0_stirred, .ref a_p0_ways, .ref a_p0_waysThen, .ref a_p0_stays, .ref a_p0_fewest, .ref a_p0_bowls, .ref a_p0_has, .ref a_p0_goesOn, .ref a_p0_isThere, .ref a_p0_isThereThen, .ref a_p0_bestRow, .ref a_p0_lanes, .ref a_p0_sizes, .ref a_p0_cells, .int i_p0_torn])), (a_p0_draft, .inl (G 1, 38, .inl w2)), (a_p0_dNeed, .inl (G 1, 7, .inl w12))] → va_S A s.heap H locs → lq2 B13 n z11 w12 = some (o_i_p0_dSeats, o_i_p0_dStirs, o_i_p0_told, o_i_p0_highest, o_v_p0_draft, o_v_p0_dNeed) → W p l e rm_X12_firstDraft s m ([.ref a_p0] : List Value).toArray below meth c H locs 0 0 Q (F0 m 39 ls []) := by
      clear hf hl hP hD hS
      intro n
      induction n with
      | zero =>
        intro z11 w12 ls H locs hl hP hD hS hf
        exact (lq2_0 hf).elim
      | succ n ih39 =>
        intro z11 w12 ls H locs hl hP hD hS hf
        replace hf := lq2_s eB13 hf
        unfold B_X12_firstDraft_39 at hf
        refine lv_iload_n hx hb dX12_firstDraft_39 rfl (lv_at hl 0 rfl) ?_
        refine lv_bipush (v := (7 : Int32)) hx hb dX12_firstDraft_40 (by decide) ?_
        refine lv_icmp_ge (tgt := 58) hx hb dX12_firstDraft_42 (by decide) (fun cc => ?_) (fun cc => ?_)
        ·
          replace hf := ite_t cc hf
          clear cc
          exact hJ6 _ _ _ _ (lv_sub hl [1] rfl) hP hD hS hf
        ·
          replace hf := ite_f cc hf
          clear cc
          refine lv_aload_n hx hb dX12_firstDraft_45 rfl (lv_at hl 1 rfl) ?_
          refine va_get (D := D) (ci := 12) (v := .ref a_p0_dNeed) (C := RX12) (T := TX12) (N := 37) hx hb hts inX12_firstDraft_X12 hown hK hP 0 rfl rfl 10 (by decide) (hts _ mwX12_firstDraft_5) (fun _ h9 => h9) rfl dX12_firstDraft_46 ?_
          refine lv_iload_n hx hb dX12_firstDraft_49 rfl (lv_at hl 0 rfl) ?_
          refine lv_iconst (v := (0 : Int32)) hx hb dX12_firstDraft_50 (by decide) ?_
          have hc := ck_c hf
          replace hf := ck_r hf
          refine gs_iast (wf := fun w14 => [(a_p0, .inr (12, [.ref a_p0_st, .ref a_p0_isKept, .int i_p0_seats, .int i_p0_stirs, .ref a_p0_brings, .ref a_p0_need, .ref a_p0_draft, .int i_p0_dSeats, .int i_p0_dStirs, .ref a_p0_dStir, .ref a_p0_dNeed, .int i_p0_told, .int i_p0_highest, .ref a_p0_tape, .int i_p0_taped, .int i_p0_pos, .int i_p0_from, .int i_p0_sort, .int i_p0_value, .int i_p0_fault, .int i_p0_wrongAt, .ref a_p0_places, .ref a_p0_stirred, .ref a_p0_ways, .ref a_p0_waysThen, .ref a_p0_stays, .ref a_p0_fewest, .ref a_p0_bowls, .ref a_p0_has, .ref a_p0_goesOn, .ref a_p0_isThere, .ref a_p0_isThereThen, .ref a_p0_bestRow, .ref a_p0_lanes, .ref a_p0_sizes, .ref a_p0_cells, .int i_p0_torn])), (a_p0_draft, .inl (G 1, 38, .inl w2)), (a_p0_dNeed, .inl (G 1, 7, .inl w14))]) hx hb hK hP hD hS 2 1 rfl rfl (ixB_in hc) dX12_firstDraft_51 (fun _ => rfl) (fun w14 ez H locs hP hD hS => ?_)
          replace hf := bnd_s hf ez
          clear ez hc
          obtain ⟨z15, ez⟩ : ∃ y : Int32, y = (z11 + (1 : Int32)) := ⟨_, rfl⟩
          replace hf := bnd_s hf ez
          refine lv_iinc (v := z15) (lv' := [(1, .int z15), (0, .ref a_p0)]) hx hb dX12_firstDraft_52 hl (k := 0) rfl (by rw [ez]; rfl) (by decide) rfl (fun ls hl => ?_)
          clear ez
          refine lv_goto (tgt := 39) hx hb dX12_firstDraft_55 (by decide) ?_
          exact ih39 _ _ _ _ _ (lv_sub hl [0, 1] rfl) hP hD hS hf
    exact hB13 _ _ _ _ _ _ (lv_sub hl [0, 1] rfl) hP hD hS hf
  have hq := lq2_i hf
  clear hf
  obtain ⟨B18, eB18, NB18, hf⟩ := hq
  have hB18 : ∀ (n : Nat) (z16 : Int32) (w17 : (Nat → Int32)) (ls : Array Slot) (H : Heap) (locs : List Loc), lv_has ls 2 [(1, .int z16), (0, .ref a_p0)] → va_P D vwCl [(a_p0, .inr (12, [.ref a_p0_st, .ref a_p0_isKept, .int i_p0_seats, .int i_p0_stirs, .ref a_p0_brings, .ref a_p0_need, .ref a_p0_draft, .int i_p0_dSeats, .int i_p0_dStirs, .ref a_p0_dStir, .ref a_p0_dNeed, .int i_p0_told, .int i_p0_highest, .ref a_p0_tape, .int i_p0_taped, .int i_p0_pos, .int i_p0_from, .int i_p0_sort, .int i_p0_value, .int i_p0_fault, .int i_p0_wrongAt, .ref a_p0_places, .ref a_p0_stirred, .ref a_p0_ways, .ref a_p0_waysThen, .ref a_p0_stays, .ref a_p0_fewest, .ref a_p0_bowls, .ref a_p0_has, .ref a_p0_goesOn, .ref a_p0_isThere, .ref a_p0_isThereThen, .ref a_p0_bestRow, .ref a_p0_lanes, .ref a_p0_sizes, .ref a_p0_cells, .int i_p0_torn])), (a_p0_draft, .inl (G 1, 38, .inl w17)), (a_p0_dNeed, .inl (G 1, 7, .inl v_p0_dNeed))] H → va_D A [(a_p0, .inr (12, [.ref a_p0_st, .ref a_p0_isKept, .int i_p0_seats, .int i_p0_stirs, .ref a_p0_brings, .ref a_p0_need, .ref a_p0_draft, .int i_p0_dSeats, .int i_p0_dStirs, .ref a_p0_dStir, .ref a_p0_dNeed, .int i_p0_told, .int i_p0_highest, .ref a_p0_tape, .int i_p0_taped, .int i_p0_pos, .int i_p0_from, .int i_p0_sort, .int i_p0_value, .int i_p0_fault, .int i_p0_wrongAt, .ref a_p0_places, .ref a_p0_stirred, .ref a_p0_ways, .ref a_p0_waysThen, .ref a_p0_stays, .ref a_p0_fewest, .ref a_p0_bowls, .ref a_p0_has, .ref a_p0_goesOn, .ref a_p0_isThere, .ref a_p0_isThereThen, .ref a_p0_bestRow, .ref a_p0_lanes, .ref a_p0_sizes, .ref a_p0_cells, .int i_p0_torn])), (a_p0_draft, .inl (G 1, 38, .inl w17)), (a_p0_dNeed, .inl (G 1, 7, .inl v_p0_dNeed))] → va_S A s.heap H locs → lq2 B18 n z16 w17 = some (o_i_p0_dSeats, o_i_p0_dStirs, o_i_p0_told, o_i_p0_highest, o_v_p0_draft, o_v_p0_dNeed) → W p l e rm_X12_firstDraft s m ([.ref a_p0] : List Value).toArray below meth c H locs 0 0 Q (F0 m 2 ls []) := by
    clear hf hl hP hD hS
    intro n
    induction n with
    | zero =>
      intro z16 w17 ls H locs hl hP hD hS hf
      exact (lq2_0 hf).elim
    | succ n ih2 =>
      intro z16 w17 ls H locs hl hP hD hS hf
      replace hf := lq2_s eB18 hf
      unfold B_X12_firstDraft_2 at hf
      refine lv_iload_n hx hb dX12_firstDraft_2 rfl (lv_at hl 0 rfl) ?_
      refine lv_bipush (v := (38 : Int32)) hx hb dX12_firstDraft_3 (by decide) ?_
      refine lv_icmp_ge (tgt := 37) hx hb dX12_firstDraft_5 (by decide) (fun cc => ?_) (fun cc => ?_)
      ·
        replace hf := ite_t cc hf
        clear cc
        exact hJ3 _ _ _ _ (lv_sub hl [1] rfl) hP hD hS hf
      ·
        replace hf := ite_f cc hf
        clear cc
        refine lv_aload_n hx hb dX12_firstDraft_8 rfl (lv_at hl 1 rfl) ?_
        refine va_get (D := D) (ci := 12) (v := .ref a_p0_draft) (C := RX12) (T := TX12) (N := 37) hx hb hts inX12_firstDraft_X12 hown hK hP 0 rfl rfl 6 (by decide) (hts _ mwX12_firstDraft_6) (fun _ h9 => h9) rfl dX12_firstDraft_9 ?_
        refine lv_iload_n hx hb dX12_firstDraft_12 rfl (lv_at hl 0 rfl) ?_
        refine lv_iload_n hx hb dX12_firstDraft_13 rfl (lv_at hl 0 rfl) ?_
        refine lv_bipush (v := (16 : Int32)) hx hb dX12_firstDraft_14 (by decide) ?_
        refine lv_icmp_lt (tgt := 29) hx hb dX12_firstDraft_16 (by decide) (fun cc => ?_) (fun cc => ?_)
        ·
          replace hf := ite_t cc hf
          clear cc
          refine lv_iconst (v := (0 : Int32)) hx hb dX12_firstDraft_29 (by decide) ?_
          have hc := ck_c hf
          replace hf := ck_r hf
          refine gs_iast (wf := fun w19 => [(a_p0, .inr (12, [.ref a_p0_st, .ref a_p0_isKept, .int i_p0_seats, .int i_p0_stirs, .ref a_p0_brings, .ref a_p0_need, .ref a_p0_draft, .int i_p0_dSeats, .int i_p0_dStirs, .ref a_p0_dStir, .ref a_p0_dNeed, .int i_p0_told, .int i_p0_highest, .ref a_p0_tape, .int i_p0_taped, .int i_p0_pos, .int i_p0_from, .int i_p0_sort, .int i_p0_value, .int i_p0_fault, .int i_p0_wrongAt, .ref a_p0_places, .ref a_p0_stirred, .ref a_p0_ways, .ref a_p0_waysThen, .ref a_p0_stays, .ref a_p0_fewest, .ref a_p0_bowls, .ref a_p0_has, .ref a_p0_goesOn, .ref a_p0_isThere, .ref a_p0_isThereThen, .ref a_p0_bestRow, .ref a_p0_lanes, .ref a_p0_sizes, .ref a_p0_cells, .int i_p0_torn])), (a_p0_draft, .inl (G 1, 38, .inl w19)), (a_p0_dNeed, .inl (G 1, 7, .inl v_p0_dNeed))]) hx hb hK hP hD hS 1 1 rfl rfl (ixB_in hc) dX12_firstDraft_30 (fun _ => rfl) (fun w19 ez H locs hP hD hS => ?_)
          replace hf := bnd_s hf ez
          clear ez hc
          obtain ⟨z20, ez⟩ : ∃ y : Int32, y = (z16 + (1 : Int32)) := ⟨_, rfl⟩
          replace hf := bnd_s hf ez
          refine lv_iinc (v := z20) (lv' := [(1, .int z20), (0, .ref a_p0)]) hx hb dX12_firstDraft_31 hl (k := 0) rfl (by rw [ez]; rfl) (by decide) rfl (fun ls hl => ?_)
          clear ez
          refine lv_goto (tgt := 2) hx hb dX12_firstDraft_34 (by decide) ?_
          exact ih2 _ _ _ _ _ (lv_sub hl [0, 1] rfl) hP hD hS hf
        ·
          replace hf := ite_f cc hf
          clear cc
          refine lv_iload_n hx hb dX12_firstDraft_19 rfl (lv_at hl 0 rfl) ?_
          refine lv_bipush (v := (23 : Int32)) hx hb dX12_firstDraft_20 (by decide) ?_
          refine lv_icmp_ge (tgt := 29) hx hb dX12_firstDraft_22 (by decide) (fun cc => ?_) (fun cc => ?_)
          ·
            replace hf := ite_t cc hf
            clear cc
            refine lv_iconst (v := (0 : Int32)) hx hb dX12_firstDraft_29 (by decide) ?_
            have hc := ck_c hf
            replace hf := ck_r hf
            refine gs_iast (wf := fun w21 => [(a_p0, .inr (12, [.ref a_p0_st, .ref a_p0_isKept, .int i_p0_seats, .int i_p0_stirs, .ref a_p0_brings, .ref a_p0_need, .ref a_p0_draft, .int i_p0_dSeats, .int i_p0_dStirs, .ref a_p0_dStir, .ref a_p0_dNeed, .int i_p0_told, .int i_p0_highest, .ref a_p0_tape, .int i_p0_taped, .int i_p0_pos, .int i_p0_from, .int i_p0_sort, .int i_p0_value, .int i_p0_fault, .int i_p0_wrongAt, .ref a_p0_places, .ref a_p0_stirred, .ref a_p0_ways, .ref a_p0_waysThen, .ref a_p0_stays, .ref a_p0_fewest, .ref a_p0_bowls, .ref a_p0_has, .ref a_p0_goesOn, .ref a_p0_isThere, .ref a_p0_isThereThen, .ref a_p0_bestRow, .ref a_p0_lanes, .ref a_p0_sizes, .ref a_p0_cells, .int i_p0_torn])), (a_p0_draft, .inl (G 1, 38, .inl w21)), (a_p0_dNeed, .inl (G 1, 7, .inl v_p0_dNeed))]) hx hb hK hP hD hS 1 1 rfl rfl (ixB_in hc) dX12_firstDraft_30 (fun _ => rfl) (fun w21 ez H locs hP hD hS => ?_)
            replace hf := bnd_s hf ez
            clear ez hc
            obtain ⟨z22, ez⟩ : ∃ y : Int32, y = (z16 + (1 : Int32)) := ⟨_, rfl⟩
            replace hf := bnd_s hf ez
            refine lv_iinc (v := z22) (lv' := [(1, .int z22), (0, .ref a_p0)]) hx hb dX12_firstDraft_31 hl (k := 0) rfl (by rw [ez]; rfl) (by decide) rfl (fun ls hl => ?_)
            clear ez
            refine lv_goto (tgt := 2) hx hb dX12_firstDraft_34 (by decide) ?_
            exact ih2 _ _ _ _ _ (lv_sub hl [0, 1] rfl) hP hD hS hf
          ·
            replace hf := ite_f cc hf
            clear cc
            refine lv_iconst (v := (1 : Int32)) hx hb dX12_firstDraft_25 (by decide) ?_
            refine lv_goto (tgt := 30) hx hb dX12_firstDraft_26 (by decide) ?_
            have hc := ck_c hf
            replace hf := ck_r hf
            refine gs_iast (wf := fun w23 => [(a_p0, .inr (12, [.ref a_p0_st, .ref a_p0_isKept, .int i_p0_seats, .int i_p0_stirs, .ref a_p0_brings, .ref a_p0_need, .ref a_p0_draft, .int i_p0_dSeats, .int i_p0_dStirs, .ref a_p0_dStir, .ref a_p0_dNeed, .int i_p0_told, .int i_p0_highest, .ref a_p0_tape, .int i_p0_taped, .int i_p0_pos, .int i_p0_from, .int i_p0_sort, .int i_p0_value, .int i_p0_fault, .int i_p0_wrongAt, .ref a_p0_places, .ref a_p0_stirred, .ref a_p0_ways, .ref a_p0_waysThen, .ref a_p0_stays, .ref a_p0_fewest, .ref a_p0_bowls, .ref a_p0_has, .ref a_p0_goesOn, .ref a_p0_isThere, .ref a_p0_isThereThen, .ref a_p0_bestRow, .ref a_p0_lanes, .ref a_p0_sizes, .ref a_p0_cells, .int i_p0_torn])), (a_p0_draft, .inl (G 1, 38, .inl w23)), (a_p0_dNeed, .inl (G 1, 7, .inl v_p0_dNeed))]) hx hb hK hP hD hS 1 1 rfl rfl (ixB_in hc) dX12_firstDraft_30 (fun _ => rfl) (fun w23 ez H locs hP hD hS => ?_)
            replace hf := bnd_s hf ez
            clear ez hc
            obtain ⟨z24, ez⟩ : ∃ y : Int32, y = (z16 + (1 : Int32)) := ⟨_, rfl⟩
            replace hf := bnd_s hf ez
            refine lv_iinc (v := z24) (lv' := [(1, .int z24), (0, .ref a_p0)]) hx hb dX12_firstDraft_31 hl (k := 0) rfl (by rw [ez]; rfl) (by decide) rfl (fun ls hl => ?_)
            clear ez
            refine lv_goto (tgt := 2) hx hb dX12_firstDraft_34 (by decide) ?_
            exact ih2 _ _ _ _ _ (lv_sub hl [0, 1] rfl) hP hD hS hf
  exact hB18 _ _ _ _ _ _ (lv_sub hl [0, 1] rfl) hP hD hS hf

noncomputable def B_X12_keepDraft_80 (z4 : Int32) (z13 : Int32) (again70 : Int32 → Option (Int32 × Int32 × (Nat → Int32) × (Nat → Int32) × (Nat → Int32))) (again80 : Int32 → Option (Int32 × Int32 × (Nat → Int32) × (Nat → Int32) × (Nat → Int32))) (z16 : Int32) : Option (Int32 × Int32 × (Nat → Int32) × (Nat → Int32) × (Nat → Int32)) := (if z4 ≤ z16 then (bnd (z13 + (1 : Int32)) (fun (z18 : Int32) => (again70 z18))) else none)
noncomputable def B_X12_keepDraft_70 (z5 : Int32) (J10 : Option (Int32 × Int32 × (Nat → Int32) × (Nat → Int32) × (Nat → Int32))) (z4 : Int32) (again70 : Int32 → Option (Int32 × Int32 × (Nat → Int32) × (Nat → Int32) × (Nat → Int32))) (z13 : Int32) : Option (Int32 × Int32 × (Nat → Int32) × (Nat → Int32) × (Nat → Int32)) := (if z5 ≤ z13 then (J10) else (bnd (0 : Int32) (fun (z15 : Int32) => (lq1 (B_X12_keepDraft_80 z4 z13 again70) 1000 z15))))
noncomputable def B_X12_keepDraft_44 (J8 : (Nat → Int32) → Option (Int32 × Int32 × (Nat → Int32) × (Nat → Int32) × (Nat → Int32))) (v_p0_dNeed : (Nat → Int32)) (again44 : Int32 → (Nat → Int32) → Option (Int32 × Int32 × (Nat → Int32) × (Nat → Int32) × (Nat → Int32))) (z19 : Int32) (w20 : (Nat → Int32)) : Option (Int32 × Int32 × (Nat → Int32) × (Nat → Int32) × (Nat → Int32)) := (if (7 : Int32) ≤ z19 then (J8 w20) else (ck (ixB z19 7) (ck (ixB z19 7) (bnd (upd w20 (z19).toNatClampNeg (v_p0_dNeed (z19).toNatClampNeg)) (fun (w22 : (Nat → Int32)) => (bnd (z19 + (1 : Int32)) (fun (z23 : Int32) => (again44 z23 w22))))))))
noncomputable def B_X12_keepDraft_2 (J3 : (Nat → Int32) → Option (Int32 × Int32 × (Nat → Int32) × (Nat → Int32) × (Nat → Int32))) (v_p0_draft : (Nat → Int32)) (again2 : Int32 → (Nat → Int32) → Option (Int32 × Int32 × (Nat → Int32) × (Nat → Int32) × (Nat → Int32))) (z24 : Int32) (w25 : (Nat → Int32)) : Option (Int32 × Int32 × (Nat → Int32) × (Nat → Int32) × (Nat → Int32)) := (if (38 : Int32) ≤ z24 then (J3 w25) else (ck (ixB z24 38) (ck (ixB z24 152) (bnd (upd w25 (z24).toNatClampNeg (v_p0_draft (z24).toNatClampNeg)) (fun (w27 : (Nat → Int32)) => (bnd (z24 + (1 : Int32)) (fun (z28 : Int32) => (again2 z28 w27))))))))
noncomputable def f_X12_keepDraft (i_p0_dSeats : Int32) (i_p0_dStirs : Int32) (v_p0_st : (Nat → Int32)) (v_p0_isKept : (Nat → Int32)) (v_p0_need : (Nat → Int32)) (v_p0_draft : (Nat → Int32)) (v_p0_dNeed : (Nat → Int32)) : Option (Int32 × Int32 × (Nat → Int32) × (Nat → Int32) × (Nat → Int32)) := (bnd (0 : Int32) (fun (z1 : Int32) => (jn (fun (w2 : (Nat → Int32)) => (bnd i_p0_dSeats (fun (z4 : Int32) => (bnd i_p0_dStirs (fun (z5 : Int32) => (bnd (0 : Int32) (fun (z6 : Int32) => (jn (fun (w7 : (Nat → Int32)) => (bnd (0 : Int32) (fun (z9 : Int32) => (jn (ck (ixB (0 : Int32) 2) (bnd (upd v_p0_isKept ((0 : Int32)).toNatClampNeg (vp_nar .boolean (0 : Int32))) (fun (w11 : (Nat → Int32)) => (ck (ixB (1 : Int32) 2) (bnd (upd w11 ((1 : Int32)).toNatClampNeg (vp_nar .boolean (0 : Int32))) (fun (w12 : (Nat → Int32)) => (some (z4, z5, w2, w12, w7)))))))) (fun (J10 : Option (Int32 × Int32 × (Nat → Int32) × (Nat → Int32) × (Nat → Int32))) => (lq1 (B_X12_keepDraft_70 z5 J10 z4) 1000 z9)))))) (fun (J8 : (Nat → Int32) → Option (Int32 × Int32 × (Nat → Int32) × (Nat → Int32) × (Nat → Int32))) => (lq2 (B_X12_keepDraft_44 J8 v_p0_dNeed) 1000 z6 v_p0_need)))))))))) (fun (J3 : (Nat → Int32) → Option (Int32 × Int32 × (Nat → Int32) × (Nat → Int32) × (Nat → Int32))) => (lq2 (B_X12_keepDraft_2 J3 v_p0_draft) 1000 z1 v_p0_st)))))
abbrev rm_X12_keepDraft : Room := { frames := 0, cells := 0, slots := 0, locals := 0 }
theorem inX12_keepDraft_X12 : ∀ w ∈ wsX120, w ∈ wsX12_keepDraft := by decide +kernel
theorem mwX12_keepDraft_1 : Cond.fieldLink RX12 87 "LadleKingsModel" "dSeats" "I" ∈ wsX12_keepDraft := by decide +kernel
theorem mwX12_keepDraft_2 : Cond.fieldLink RX12 100 "LadleKingsModel" "seats" "I" ∈ wsX12_keepDraft := by decide +kernel
theorem mwX12_keepDraft_3 : Cond.fieldLink RX12 91 "LadleKingsModel" "dStirs" "I" ∈ wsX12_keepDraft := by decide +kernel
theorem mwX12_keepDraft_4 : Cond.fieldLink RX12 103 "LadleKingsModel" "stirs" "I" ∈ wsX12_keepDraft := by decide +kernel
theorem mwX12_keepDraft_5 : Cond.fieldLink RX12 13 "LadleKingsModel" "isKept" "[Z" ∈ wsX12_keepDraft := by decide +kernel
theorem mwX12_keepDraft_6 : Cond.fieldLink RX12 17 "LadleKingsModel" "brings" "[I" ∈ wsX12_keepDraft := by decide +kernel
theorem mwX12_keepDraft_7 : Cond.fieldLink RX12 20 "LadleKingsModel" "need" "[I" ∈ wsX12_keepDraft := by decide +kernel
theorem mwX12_keepDraft_8 : Cond.fieldLink RX12 29 "LadleKingsModel" "dNeed" "[I" ∈ wsX12_keepDraft := by decide +kernel
theorem mwX12_keepDraft_9 : Cond.fieldLink RX12 7 "LadleKingsModel" "st" "[I" ∈ wsX12_keepDraft := by decide +kernel
theorem mwX12_keepDraft_10 : Cond.fieldLink RX12 23 "LadleKingsModel" "draft" "[I" ∈ wsX12_keepDraft := by decide +kernel
set_option maxHeartbeats 8000000 in
set_option maxRecDepth 100000 in
theorem c_X12_keepDraft (l : Launch) (D : va_G) (G : Nat → ClassId) (sz : Nat) (a_p0 : Nat) (a_p0_st : Nat) (a_p0_isKept : Nat) (a_p0_brings : Nat) (a_p0_need : Nat) (a_p0_draft : Nat) (a_p0_dStir : Nat) (a_p0_dNeed : Nat) (a_p0_tape : Nat) (a_p0_places : Nat) (a_p0_stirred : Nat) (a_p0_ways : Nat) (a_p0_waysThen : Nat) (a_p0_stays : Nat) (a_p0_fewest : Nat) (a_p0_bowls : Nat) (a_p0_has : Nat) (a_p0_goesOn : Nat) (a_p0_isThere : Nat) (a_p0_isThereThen : Nat) (a_p0_bestRow : Nat) (a_p0_lanes : Nat) (a_p0_sizes : Nat) (a_p0_cells : Nat) (i_p0_seats : Int32) (i_p0_stirs : Int32) (i_p0_dSeats : Int32) (i_p0_dStirs : Int32) (i_p0_told : Int32) (i_p0_highest : Int32) (i_p0_taped : Int32) (i_p0_pos : Int32) (i_p0_from : Int32) (i_p0_sort : Int32) (i_p0_value : Int32) (i_p0_fault : Int32) (i_p0_wrongAt : Int32) (i_p0_torn : Int32) (v_p0_st : (Nat → Int32)) (v_p0_isKept : (Nat → Int32)) (v_p0_need : (Nat → Int32)) (v_p0_draft : (Nat → Int32)) (v_p0_dNeed : (Nat → Int32)) (o_i_p0_seats : Int32) (o_i_p0_stirs : Int32) (o_v_p0_st : (Nat → Int32)) (o_v_p0_isKept : (Nat → Int32)) (o_v_p0_need : (Nat → Int32)) (hf : f_X12_keepDraft i_p0_dSeats i_p0_dStirs v_p0_st v_p0_isKept v_p0_need v_p0_draft v_p0_dNeed = some (o_i_p0_seats, o_i_p0_stirs, o_v_p0_st, o_v_p0_isKept, o_v_p0_need)) : Met l yX12_keepDraft wsX12_keepDraft rm_X12_keepDraft (pcG D G [.ref a_p0] sz [(a_p0, .inr (12, [.ref a_p0_st, .ref a_p0_isKept, .int i_p0_seats, .int i_p0_stirs, .ref a_p0_brings, .ref a_p0_need, .ref a_p0_draft, .int i_p0_dSeats, .int i_p0_dStirs, .ref a_p0_dStir, .ref a_p0_dNeed, .int i_p0_told, .int i_p0_highest, .ref a_p0_tape, .int i_p0_taped, .int i_p0_pos, .int i_p0_from, .int i_p0_sort, .int i_p0_value, .int i_p0_fault, .int i_p0_wrongAt, .ref a_p0_places, .ref a_p0_stirred, .ref a_p0_ways, .ref a_p0_waysThen, .ref a_p0_stays, .ref a_p0_fewest, .ref a_p0_bowls, .ref a_p0_has, .ref a_p0_goesOn, .ref a_p0_isThere, .ref a_p0_isThereThen, .ref a_p0_bestRow, .ref a_p0_lanes, .ref a_p0_sizes, .ref a_p0_cells, .int i_p0_torn])), (a_p0_st, .inl (G 1, 152, .inl v_p0_st)), (a_p0_isKept, .inl (G 3, 2, .inl v_p0_isKept)), (a_p0_need, .inl (G 1, 7, .inl v_p0_need)), (a_p0_draft, .inl (G 1, 38, .inl v_p0_draft)), (a_p0_dNeed, .inl (G 1, 7, .inl v_p0_dNeed))]) (qcV D G [(a_p0, .inr (12, [.ref a_p0_st, .ref a_p0_isKept, .int o_i_p0_seats, .int o_i_p0_stirs, .ref a_p0_brings, .ref a_p0_need, .ref a_p0_draft, .int i_p0_dSeats, .int i_p0_dStirs, .ref a_p0_dStir, .ref a_p0_dNeed, .int i_p0_told, .int i_p0_highest, .ref a_p0_tape, .int i_p0_taped, .int i_p0_pos, .int i_p0_from, .int i_p0_sort, .int i_p0_value, .int i_p0_fault, .int i_p0_wrongAt, .ref a_p0_places, .ref a_p0_stirred, .ref a_p0_ways, .ref a_p0_waysThen, .ref a_p0_stays, .ref a_p0_fewest, .ref a_p0_bowls, .ref a_p0_has, .ref a_p0_goesOn, .ref a_p0_isThere, .ref a_p0_isThereThen, .ref a_p0_bestRow, .ref a_p0_lanes, .ref a_p0_sizes, .ref a_p0_cells, .int i_p0_torn])), (a_p0_st, .inl (G 1, 152, .inl o_v_p0_st)), (a_p0_isKept, .inl (G 3, 2, .inl o_v_p0_isKept)), (a_p0_need, .inl (G 1, 7, .inl o_v_p0_need)), (a_p0_draft, .inl (G 1, 38, .inl v_p0_draft)), (a_p0_dNeed, .inl (G 1, 7, .inl v_p0_dNeed))] (va_A [(a_p0, .inr (12, [.ref a_p0_st, .ref a_p0_isKept, .int i_p0_seats, .int i_p0_stirs, .ref a_p0_brings, .ref a_p0_need, .ref a_p0_draft, .int i_p0_dSeats, .int i_p0_dStirs, .ref a_p0_dStir, .ref a_p0_dNeed, .int i_p0_told, .int i_p0_highest, .ref a_p0_tape, .int i_p0_taped, .int i_p0_pos, .int i_p0_from, .int i_p0_sort, .int i_p0_value, .int i_p0_fault, .int i_p0_wrongAt, .ref a_p0_places, .ref a_p0_stirred, .ref a_p0_ways, .ref a_p0_waysThen, .ref a_p0_stays, .ref a_p0_fewest, .ref a_p0_bowls, .ref a_p0_has, .ref a_p0_goesOn, .ref a_p0_isThere, .ref a_p0_isThereThen, .ref a_p0_bestRow, .ref a_p0_lanes, .ref a_p0_sizes, .ref a_p0_cells, .int i_p0_torn])), (a_p0_st, .inl (G 1, 152, .inl v_p0_st)), (a_p0_isKept, .inl (G 3, 2, .inl v_p0_isKept)), (a_p0_need, .inl (G 1, 7, .inl v_p0_need)), (a_p0_draft, .inl (G 1, 38, .inl v_p0_draft)), (a_p0_dNeed, .inl (G 1, 7, .inl v_p0_dNeed))] sz)) 0 0 (va_A [(a_p0, .inr (12, [.ref a_p0_st, .ref a_p0_isKept, .int i_p0_seats, .int i_p0_stirs, .ref a_p0_brings, .ref a_p0_need, .ref a_p0_draft, .int i_p0_dSeats, .int i_p0_dStirs, .ref a_p0_dStir, .ref a_p0_dNeed, .int i_p0_told, .int i_p0_highest, .ref a_p0_tape, .int i_p0_taped, .int i_p0_pos, .int i_p0_from, .int i_p0_sort, .int i_p0_value, .int i_p0_fault, .int i_p0_wrongAt, .ref a_p0_places, .ref a_p0_stirred, .ref a_p0_ways, .ref a_p0_waysThen, .ref a_p0_stays, .ref a_p0_fewest, .ref a_p0_bowls, .ref a_p0_has, .ref a_p0_goesOn, .ref a_p0_isThere, .ref a_p0_isThereThen, .ref a_p0_bestRow, .ref a_p0_lanes, .ref a_p0_sizes, .ref a_p0_cells, .int i_p0_torn])), (a_p0_st, .inl (G 1, 152, .inl v_p0_st)), (a_p0_isKept, .inl (G 3, 2, .inl v_p0_isKept)), (a_p0_need, .inl (G 1, 7, .inl v_p0_need)), (a_p0_draft, .inl (G 1, 38, .inl v_p0_draft)), (a_p0_dNeed, .inl (G 1, 7, .inl v_p0_dNeed))] sz) := by
  refine Met.ofW (cc := cX12_keepDraft) (maxL := 3) (ret := none) (by decide) rfl ?_
  intro p e s m args below meth c s₁ B hml hv
  obtain ⟨rfl, hsz, hP, hK, hD0⟩ := hv
  have hx := B.exec
  have hb := B.bytes
  have hr := B.returns
  have hts := atoms_spec (ws := wsX12_keepDraft) B.pre
  have hown : s.vm.findClass RX12 = some m.cls := findClass_of_methodNamed B.named
  have hlocks := B.notSynchronized
  subst hsz
  have hD := hD0.self (sz := s.heap.size)
  generalize hAe : va_A [(a_p0, .inr (12, [.ref a_p0_st, .ref a_p0_isKept, .int i_p0_seats, .int i_p0_stirs, .ref a_p0_brings, .ref a_p0_need, .ref a_p0_draft, .int i_p0_dSeats, .int i_p0_dStirs, .ref a_p0_dStir, .ref a_p0_dNeed, .int i_p0_told, .int i_p0_highest, .ref a_p0_tape, .int i_p0_taped, .int i_p0_pos, .int i_p0_from, .int i_p0_sort, .int i_p0_value, .int i_p0_fault, .int i_p0_wrongAt, .ref a_p0_places, .ref a_p0_stirred, .ref a_p0_ways, .ref a_p0_waysThen, .ref a_p0_stays, .ref a_p0_fewest, .ref a_p0_bowls, .ref a_p0_has, .ref a_p0_goesOn, .ref a_p0_isThere, .ref a_p0_isThereThen, .ref a_p0_bestRow, .ref a_p0_lanes, .ref a_p0_sizes, .ref a_p0_cells, .int i_p0_torn])), (a_p0_st, .inl (G 1, 152, .inl v_p0_st)), (a_p0_isKept, .inl (G 3, 2, .inl v_p0_isKept)), (a_p0_need, .inl (G 1, 7, .inl v_p0_need)), (a_p0_draft, .inl (G 1, 38, .inl v_p0_draft)), (a_p0_dNeed, .inl (G 1, 7, .inl v_p0_dNeed))] s.heap.size = A at hD ⊢
  have hA : ∀ q : Nat, s.heap.size ≤ q → A q := fun q h => by rw [← hAe]; exact Or.inr h
  clear hAe hD0
  have hS : va_S A s.heap s.heap [] := va_S.rf
  have hl := lv_entry ([.ref a_p0]) (n := 3) (Nat.le_of_ble_eq_true rfl)
  rw [lg_entry_eq]
  generalize (lg_sl ([.ref a_p0]) ++ List.replicate (3 - (lg_sl ([.ref a_p0])).length) Slot.unset).toArray = ls at hl ⊢
  have hl : lv_has ls 3 [(0, .ref a_p0)] := hl
  refine W_nameQ (fun Q hQ => ?_)
  obtain ⟨H, hH⟩ : ∃ H, H = s.heap := ⟨_, rfl⟩
  replace hS : va_S A s.heap H [] := by rw [hH]; exact hS
  replace hP : va_P D vwCl [(a_p0, .inr (12, [.ref a_p0_st, .ref a_p0_isKept, .int i_p0_seats, .int i_p0_stirs, .ref a_p0_brings, .ref a_p0_need, .ref a_p0_draft, .int i_p0_dSeats, .int i_p0_dStirs, .ref a_p0_dStir, .ref a_p0_dNeed, .int i_p0_told, .int i_p0_highest, .ref a_p0_tape, .int i_p0_taped, .int i_p0_pos, .int i_p0_from, .int i_p0_sort, .int i_p0_value, .int i_p0_fault, .int i_p0_wrongAt, .ref a_p0_places, .ref a_p0_stirred, .ref a_p0_ways, .ref a_p0_waysThen, .ref a_p0_stays, .ref a_p0_fewest, .ref a_p0_bowls, .ref a_p0_has, .ref a_p0_goesOn, .ref a_p0_isThere, .ref a_p0_isThereThen, .ref a_p0_bestRow, .ref a_p0_lanes, .ref a_p0_sizes, .ref a_p0_cells, .int i_p0_torn])), (a_p0_st, .inl (G 1, 152, .inl v_p0_st)), (a_p0_isKept, .inl (G 3, 2, .inl v_p0_isKept)), (a_p0_need, .inl (G 1, 7, .inl v_p0_need)), (a_p0_draft, .inl (G 1, 38, .inl v_p0_draft)), (a_p0_dNeed, .inl (G 1, 7, .inl v_p0_dNeed))] H := by rw [hH]; exact hP
  rw [← hH]
  clear hH
  unfold f_X12_keepDraft at hf
  refine lv_iconst (v := (0 : Int32)) hx hb dX12_keepDraft_0 (by decide) ?_
  refine lv_topi (fun z1 ez => ?_)
  replace hf := bnd_s hf ez
  clear ez
  refine lv_istore_n (lv' := [(1, .int z1), (0, .ref a_p0)]) hx hb dX12_keepDraft_1 rfl hl (by decide) rfl (fun ls hl => ?_)
  have hq := jn_i hf
  clear hf
  obtain ⟨J3, eJ3, hf⟩ := hq
  have hJ3 : ∀ (w2 : (Nat → Int32)) (ls : Array Slot) (H : Heap) (locs : List Loc), lv_has ls 3 [(0, .ref a_p0)] → va_P D vwCl [(a_p0, .inr (12, [.ref a_p0_st, .ref a_p0_isKept, .int i_p0_seats, .int i_p0_stirs, .ref a_p0_brings, .ref a_p0_need, .ref a_p0_draft, .int i_p0_dSeats, .int i_p0_dStirs, .ref a_p0_dStir, .ref a_p0_dNeed, .int i_p0_told, .int i_p0_highest, .ref a_p0_tape, .int i_p0_taped, .int i_p0_pos, .int i_p0_from, .int i_p0_sort, .int i_p0_value, .int i_p0_fault, .int i_p0_wrongAt, .ref a_p0_places, .ref a_p0_stirred, .ref a_p0_ways, .ref a_p0_waysThen, .ref a_p0_stays, .ref a_p0_fewest, .ref a_p0_bowls, .ref a_p0_has, .ref a_p0_goesOn, .ref a_p0_isThere, .ref a_p0_isThereThen, .ref a_p0_bestRow, .ref a_p0_lanes, .ref a_p0_sizes, .ref a_p0_cells, .int i_p0_torn])), (a_p0_st, .inl (G 1, 152, .inl w2)), (a_p0_isKept, .inl (G 3, 2, .inl v_p0_isKept)), (a_p0_need, .inl (G 1, 7, .inl v_p0_need)), (a_p0_draft, .inl (G 1, 38, .inl v_p0_draft)), (a_p0_dNeed, .inl (G 1, 7, .inl v_p0_dNeed))] H → va_D A [(a_p0, .inr (12, [.ref a_p0_st, .ref a_p0_isKept, .int i_p0_seats, .int i_p0_stirs, .ref a_p0_brings, .ref a_p0_need, .ref a_p0_draft, .int i_p0_dSeats, .int i_p0_dStirs, .ref a_p0_dStir, .ref a_p0_dNeed, .int i_p0_told, .int i_p0_highest, .ref a_p0_tape, .int i_p0_taped, .int i_p0_pos, .int i_p0_from, .int i_p0_sort, .int i_p0_value, .int i_p0_fault, .int i_p0_wrongAt, .ref a_p0_places, .ref a_p0_stirred, .ref a_p0_ways, .ref a_p0_waysThen, .ref a_p0_stays, .ref a_p0_fewest, .ref a_p0_bowls, .ref a_p0_has, .ref a_p0_goesOn, .ref a_p0_isThere, .ref a_p0_isThereThen, .ref a_p0_bestRow, .ref a_p0_lanes, .ref a_p0_sizes, .ref a_p0_cells, .int i_p0_torn])), (a_p0_st, .inl (G 1, 152, .inl w2)), (a_p0_isKept, .inl (G 3, 2, .inl v_p0_isKept)), (a_p0_need, .inl (G 1, 7, .inl v_p0_need)), (a_p0_draft, .inl (G 1, 38, .inl v_p0_draft)), (a_p0_dNeed, .inl (G 1, 7, .inl v_p0_dNeed))] → va_S A s.heap H locs → J3 w2 = some (o_i_p0_seats, o_i_p0_stirs, o_v_p0_st, o_v_p0_isKept, o_v_p0_need) → W p l e rm_X12_keepDraft s m ([.ref a_p0] : List Value).toArray below meth c H locs 0 0 Q (F0 m 26 ls []) := by
    clear hf hl hP hD hS
    intro w2 ls H locs hl hP hD hS hf
    replace hf := jn1_s eJ3 hf
    refine lv_aload_n hx hb dX12_keepDraft_26 rfl (lv_at hl 0 rfl) ?_
    refine lv_aload_n hx hb dX12_keepDraft_27 rfl (lv_at hl 0 rfl) ?_
    refine va_get (D := D) (ci := 12) (v := .int i_p0_dSeats) (C := RX12) (T := TX12) (N := 37) hx hb hts inX12_keepDraft_X12 hown hK hP 0 rfl rfl 7 (by decide) (hts _ mwX12_keepDraft_1) (fun _ h9 => h9) rfl dX12_keepDraft_28 ?_
    refine lv_topi (fun z4 ez => ?_)
    replace hf := bnd_s hf ez
    clear ez
    refine va_put (D := D) (ci := 12) (v := .int z4) (ty := .int) (C := RX12) (T := TX12) (N := 37) hx hb hts inX12_keepDraft_X12 tyX12 tyX12_ok nmX12 hown hK hP hD hS 0 rfl rfl 2 (by decide) (hts _ mwX12_keepDraft_2) (fun _ h9 => h9) rfl (by decide +kernel) rfl rfl (Nat.le_of_ble_eq_true rfl) dX12_keepDraft_31 (fun H locs hP hD hS => ?_)
    have hP : va_P D vwCl [(a_p0, .inr (12, [.ref a_p0_st, .ref a_p0_isKept, .int z4, .int i_p0_stirs, .ref a_p0_brings, .ref a_p0_need, .ref a_p0_draft, .int i_p0_dSeats, .int i_p0_dStirs, .ref a_p0_dStir, .ref a_p0_dNeed, .int i_p0_told, .int i_p0_highest, .ref a_p0_tape, .int i_p0_taped, .int i_p0_pos, .int i_p0_from, .int i_p0_sort, .int i_p0_value, .int i_p0_fault, .int i_p0_wrongAt, .ref a_p0_places, .ref a_p0_stirred, .ref a_p0_ways, .ref a_p0_waysThen, .ref a_p0_stays, .ref a_p0_fewest, .ref a_p0_bowls, .ref a_p0_has, .ref a_p0_goesOn, .ref a_p0_isThere, .ref a_p0_isThereThen, .ref a_p0_bestRow, .ref a_p0_lanes, .ref a_p0_sizes, .ref a_p0_cells, .int i_p0_torn])), (a_p0_st, .inl (G 1, 152, .inl w2)), (a_p0_isKept, .inl (G 3, 2, .inl v_p0_isKept)), (a_p0_need, .inl (G 1, 7, .inl v_p0_need)), (a_p0_draft, .inl (G 1, 38, .inl v_p0_draft)), (a_p0_dNeed, .inl (G 1, 7, .inl v_p0_dNeed))] H := hP
    have hD : va_D A [(a_p0, .inr (12, [.ref a_p0_st, .ref a_p0_isKept, .int z4, .int i_p0_stirs, .ref a_p0_brings, .ref a_p0_need, .ref a_p0_draft, .int i_p0_dSeats, .int i_p0_dStirs, .ref a_p0_dStir, .ref a_p0_dNeed, .int i_p0_told, .int i_p0_highest, .ref a_p0_tape, .int i_p0_taped, .int i_p0_pos, .int i_p0_from, .int i_p0_sort, .int i_p0_value, .int i_p0_fault, .int i_p0_wrongAt, .ref a_p0_places, .ref a_p0_stirred, .ref a_p0_ways, .ref a_p0_waysThen, .ref a_p0_stays, .ref a_p0_fewest, .ref a_p0_bowls, .ref a_p0_has, .ref a_p0_goesOn, .ref a_p0_isThere, .ref a_p0_isThereThen, .ref a_p0_bestRow, .ref a_p0_lanes, .ref a_p0_sizes, .ref a_p0_cells, .int i_p0_torn])), (a_p0_st, .inl (G 1, 152, .inl w2)), (a_p0_isKept, .inl (G 3, 2, .inl v_p0_isKept)), (a_p0_need, .inl (G 1, 7, .inl v_p0_need)), (a_p0_draft, .inl (G 1, 38, .inl v_p0_draft)), (a_p0_dNeed, .inl (G 1, 7, .inl v_p0_dNeed))] := hD
    refine lv_aload_n hx hb dX12_keepDraft_34 rfl (lv_at hl 0 rfl) ?_
    refine lv_aload_n hx hb dX12_keepDraft_35 rfl (lv_at hl 0 rfl) ?_
    refine va_get (D := D) (ci := 12) (v := .int i_p0_dStirs) (C := RX12) (T := TX12) (N := 37) hx hb hts inX12_keepDraft_X12 hown hK hP 0 rfl rfl 8 (by decide) (hts _ mwX12_keepDraft_3) (fun _ h9 => h9) rfl dX12_keepDraft_36 ?_
    refine lv_topi (fun z5 ez => ?_)
    replace hf := bnd_s hf ez
    clear ez
    refine va_put (D := D) (ci := 12) (v := .int z5) (ty := .int) (C := RX12) (T := TX12) (N := 37) hx hb hts inX12_keepDraft_X12 tyX12 tyX12_ok nmX12 hown hK hP hD hS 0 rfl rfl 3 (by decide) (hts _ mwX12_keepDraft_4) (fun _ h9 => h9) rfl (by decide +kernel) rfl rfl (Nat.le_of_ble_eq_true rfl) dX12_keepDraft_39 (fun H locs hP hD hS => ?_)
    have hP : va_P D vwCl [(a_p0, .inr (12, [.ref a_p0_st, .ref a_p0_isKept, .int z4, .int z5, .ref a_p0_brings, .ref a_p0_need, .ref a_p0_draft, .int i_p0_dSeats, .int i_p0_dStirs, .ref a_p0_dStir, .ref a_p0_dNeed, .int i_p0_told, .int i_p0_highest, .ref a_p0_tape, .int i_p0_taped, .int i_p0_pos, .int i_p0_from, .int i_p0_sort, .int i_p0_value, .int i_p0_fault, .int i_p0_wrongAt, .ref a_p0_places, .ref a_p0_stirred, .ref a_p0_ways, .ref a_p0_waysThen, .ref a_p0_stays, .ref a_p0_fewest, .ref a_p0_bowls, .ref a_p0_has, .ref a_p0_goesOn, .ref a_p0_isThere, .ref a_p0_isThereThen, .ref a_p0_bestRow, .ref a_p0_lanes, .ref a_p0_sizes, .ref a_p0_cells, .int i_p0_torn])), (a_p0_st, .inl (G 1, 152, .inl w2)), (a_p0_isKept, .inl (G 3, 2, .inl v_p0_isKept)), (a_p0_need, .inl (G 1, 7, .inl v_p0_need)), (a_p0_draft, .inl (G 1, 38, .inl v_p0_draft)), (a_p0_dNeed, .inl (G 1, 7, .inl v_p0_dNeed))] H := hP
    have hD : va_D A [(a_p0, .inr (12, [.ref a_p0_st, .ref a_p0_isKept, .int z4, .int z5, .ref a_p0_brings, .ref a_p0_need, .ref a_p0_draft, .int i_p0_dSeats, .int i_p0_dStirs, .ref a_p0_dStir, .ref a_p0_dNeed, .int i_p0_told, .int i_p0_highest, .ref a_p0_tape, .int i_p0_taped, .int i_p0_pos, .int i_p0_from, .int i_p0_sort, .int i_p0_value, .int i_p0_fault, .int i_p0_wrongAt, .ref a_p0_places, .ref a_p0_stirred, .ref a_p0_ways, .ref a_p0_waysThen, .ref a_p0_stays, .ref a_p0_fewest, .ref a_p0_bowls, .ref a_p0_has, .ref a_p0_goesOn, .ref a_p0_isThere, .ref a_p0_isThereThen, .ref a_p0_bestRow, .ref a_p0_lanes, .ref a_p0_sizes, .ref a_p0_cells, .int i_p0_torn])), (a_p0_st, .inl (G 1, 152, .inl w2)), (a_p0_isKept, .inl (G 3, 2, .inl v_p0_isKept)), (a_p0_need, .inl (G 1, 7, .inl v_p0_need)), (a_p0_draft, .inl (G 1, 38, .inl v_p0_draft)), (a_p0_dNeed, .inl (G 1, 7, .inl v_p0_dNeed))] := hD
    refine lv_iconst (v := (0 : Int32)) hx hb dX12_keepDraft_42 (by decide) ?_
    refine lv_topi (fun z6 ez => ?_)
    replace hf := bnd_s hf ez
    clear ez
    refine lv_istore_n (lv' := [(1, .int z6), (0, .ref a_p0)]) hx hb dX12_keepDraft_43 rfl hl (by decide) rfl (fun ls hl => ?_)
    have hq := jn_i hf
    clear hf
    obtain ⟨J8, eJ8, hf⟩ := hq
    have hJ8 : ∀ (w7 : (Nat → Int32)) (ls : Array Slot) (H : Heap) (locs : List Loc), lv_has ls 3 [(0, .ref a_p0)] → va_P D vwCl [(a_p0, .inr (12, [.ref a_p0_st, .ref a_p0_isKept, .int z4, .int z5, .ref a_p0_brings, .ref a_p0_need, .ref a_p0_draft, .int i_p0_dSeats, .int i_p0_dStirs, .ref a_p0_dStir, .ref a_p0_dNeed, .int i_p0_told, .int i_p0_highest, .ref a_p0_tape, .int i_p0_taped, .int i_p0_pos, .int i_p0_from, .int i_p0_sort, .int i_p0_value, .int i_p0_fault, .int i_p0_wrongAt, .ref a_p0_places, .ref a_p0_stirred, .ref a_p0_ways, .ref a_p0_waysThen, .ref a_p0_stays, .ref a_p0_fewest, .ref a_p0_bowls, .ref a_p0_has, .ref a_p0_goesOn, .ref a_p0_isThere, .ref a_p0_isThereThen, .ref a_p0_bestRow, .ref a_p0_lanes, .ref a_p0_sizes, .ref a_p0_cells, .int i_p0_torn])), (a_p0_st, .inl (G 1, 152, .inl w2)), (a_p0_isKept, .inl (G 3, 2, .inl v_p0_isKept)), (a_p0_need, .inl (G 1, 7, .inl w7)), (a_p0_draft, .inl (G 1, 38, .inl v_p0_draft)), (a_p0_dNeed, .inl (G 1, 7, .inl v_p0_dNeed))] H → va_D A [(a_p0, .inr (12, [.ref a_p0_st, .ref a_p0_isKept, .int z4, .int z5, .ref a_p0_brings, .ref a_p0_need, .ref a_p0_draft, .int i_p0_dSeats, .int i_p0_dStirs, .ref a_p0_dStir, .ref a_p0_dNeed, .int i_p0_told, .int i_p0_highest, .ref a_p0_tape, .int i_p0_taped, .int i_p0_pos, .int i_p0_from, .int i_p0_sort, .int i_p0_value, .int i_p0_fault, .int i_p0_wrongAt, .ref a_p0_places, .ref a_p0_stirred, .ref a_p0_ways, .ref a_p0_waysThen, .ref a_p0_stays, .ref a_p0_fewest, .ref a_p0_bowls, .ref a_p0_has, .ref a_p0_goesOn, .ref a_p0_isThere, .ref a_p0_isThereThen, .ref a_p0_bestRow, .ref a_p0_lanes, .ref a_p0_sizes, .ref a_p0_cells, .int i_p0_torn])), (a_p0_st, .inl (G 1, 152, .inl w2)), (a_p0_isKept, .inl (G 3, 2, .inl v_p0_isKept)), (a_p0_need, .inl (G 1, 7, .inl w7)), (a_p0_draft, .inl (G 1, 38, .inl v_p0_draft)), (a_p0_dNeed, .inl (G 1, 7, .inl v_p0_dNeed))] → va_S A s.heap H locs → J8 w7 = some (o_i_p0_seats, o_i_p0_stirs, o_v_p0_st, o_v_p0_isKept, o_v_p0_need) → W p l e rm_X12_keepDraft s m ([.ref a_p0] : List Value).toArray below meth c H locs 0 0 Q (F0 m 68 ls []) := by
      clear hf hl hP hD hS
      intro w7 ls H locs hl hP hD hS hf
      replace hf := jn1_s eJ8 hf
      refine lv_iconst (v := (0 : Int32)) hx hb dX12_keepDraft_68 (by decide) ?_
      refine lv_topi (fun z9 ez => ?_)
      replace hf := bnd_s hf ez
      clear ez
      refine lv_istore_n (lv' := [(1, .int z9), (0, .ref a_p0)]) hx hb dX12_keepDraft_69 rfl hl (by decide) rfl (fun ls hl => ?_)
      have hq := jn_i hf
      clear hf
      obtain ⟨J10, eJ10, hf⟩ := hq
      have hJ10 : ∀  (ls : Array Slot) (H : Heap) (locs : List Loc), lv_has ls 3 [(0, .ref a_p0)] → va_P D vwCl [(a_p0, .inr (12, [.ref a_p0_st, .ref a_p0_isKept, .int z4, .int z5, .ref a_p0_brings, .ref a_p0_need, .ref a_p0_draft, .int i_p0_dSeats, .int i_p0_dStirs, .ref a_p0_dStir, .ref a_p0_dNeed, .int i_p0_told, .int i_p0_highest, .ref a_p0_tape, .int i_p0_taped, .int i_p0_pos, .int i_p0_from, .int i_p0_sort, .int i_p0_value, .int i_p0_fault, .int i_p0_wrongAt, .ref a_p0_places, .ref a_p0_stirred, .ref a_p0_ways, .ref a_p0_waysThen, .ref a_p0_stays, .ref a_p0_fewest, .ref a_p0_bowls, .ref a_p0_has, .ref a_p0_goesOn, .ref a_p0_isThere, .ref a_p0_isThereThen, .ref a_p0_bestRow, .ref a_p0_lanes, .ref a_p0_sizes, .ref a_p0_cells, .int i_p0_torn])), (a_p0_st, .inl (G 1, 152, .inl w2)), (a_p0_isKept, .inl (G 3, 2, .inl v_p0_isKept)), (a_p0_need, .inl (G 1, 7, .inl w7)), (a_p0_draft, .inl (G 1, 38, .inl v_p0_draft)), (a_p0_dNeed, .inl (G 1, 7, .inl v_p0_dNeed))] H → va_D A [(a_p0, .inr (12, [.ref a_p0_st, .ref a_p0_isKept, .int z4, .int z5, .ref a_p0_brings, .ref a_p0_need, .ref a_p0_draft, .int i_p0_dSeats, .int i_p0_dStirs, .ref a_p0_dStir, .ref a_p0_dNeed, .int i_p0_told, .int i_p0_highest, .ref a_p0_tape, .int i_p0_taped, .int i_p0_pos, .int i_p0_from, .int i_p0_sort, .int i_p0_value, .int i_p0_fault, .int i_p0_wrongAt, .ref a_p0_places, .ref a_p0_stirred, .ref a_p0_ways, .ref a_p0_waysThen, .ref a_p0_stays, .ref a_p0_fewest, .ref a_p0_bowls, .ref a_p0_has, .ref a_p0_goesOn, .ref a_p0_isThere, .ref a_p0_isThereThen, .ref a_p0_bestRow, .ref a_p0_lanes, .ref a_p0_sizes, .ref a_p0_cells, .int i_p0_torn])), (a_p0_st, .inl (G 1, 152, .inl w2)), (a_p0_isKept, .inl (G 3, 2, .inl v_p0_isKept)), (a_p0_need, .inl (G 1, 7, .inl w7)), (a_p0_draft, .inl (G 1, 38, .inl v_p0_draft)), (a_p0_dNeed, .inl (G 1, 7, .inl v_p0_dNeed))] → va_S A s.heap H locs → J10  = some (o_i_p0_seats, o_i_p0_stirs, o_v_p0_st, o_v_p0_isKept, o_v_p0_need) → W p l e rm_X12_keepDraft s m ([.ref a_p0] : List Value).toArray below meth c H locs 0 0 Q (F0 m 117 ls []) := by
        clear hf hl hP hD hS
        intro  ls H locs hl hP hD hS hf
        replace hf := jn0_s eJ10 hf
        refine lv_aload_n hx hb dX12_keepDraft_117 rfl (lv_at hl 0 rfl) ?_
        refine va_get (D := D) (ci := 12) (v := .ref a_p0_isKept) (C := RX12) (T := TX12) (N := 37) hx hb hts inX12_keepDraft_X12 hown hK hP 0 rfl rfl 1 (by decide) (hts _ mwX12_keepDraft_5) (fun _ h9 => h9) rfl dX12_keepDraft_118 ?_
        refine lv_iconst (v := (0 : Int32)) hx hb dX12_keepDraft_121 (by decide) ?_
        refine lv_iconst (v := (0 : Int32)) hx hb dX12_keepDraft_122 (by decide) ?_
        have hc := ck_c hf
        replace hf := ck_r hf
        refine gs_zast (wf := fun w11 => [(a_p0, .inr (12, [.ref a_p0_st, .ref a_p0_isKept, .int z4, .int z5, .ref a_p0_brings, .ref a_p0_need, .ref a_p0_draft, .int i_p0_dSeats, .int i_p0_dStirs, .ref a_p0_dStir, .ref a_p0_dNeed, .int i_p0_told, .int i_p0_highest, .ref a_p0_tape, .int i_p0_taped, .int i_p0_pos, .int i_p0_from, .int i_p0_sort, .int i_p0_value, .int i_p0_fault, .int i_p0_wrongAt, .ref a_p0_places, .ref a_p0_stirred, .ref a_p0_ways, .ref a_p0_waysThen, .ref a_p0_stays, .ref a_p0_fewest, .ref a_p0_bowls, .ref a_p0_has, .ref a_p0_goesOn, .ref a_p0_isThere, .ref a_p0_isThereThen, .ref a_p0_bestRow, .ref a_p0_lanes, .ref a_p0_sizes, .ref a_p0_cells, .int i_p0_torn])), (a_p0_st, .inl (G 1, 152, .inl w2)), (a_p0_isKept, .inl (G 3, 2, .inl w11)), (a_p0_need, .inl (G 1, 7, .inl w7)), (a_p0_draft, .inl (G 1, 38, .inl v_p0_draft)), (a_p0_dNeed, .inl (G 1, 7, .inl v_p0_dNeed))]) hx hb hK hP hD hS 2 3 rfl rfl (ixB_in hc) dX12_keepDraft_123 (fun _ => rfl) (fun w11 ez H locs hP hD hS => ?_)
        replace hf := bnd_s hf ez
        clear ez hc
        refine lv_aload_n hx hb dX12_keepDraft_124 rfl (lv_at hl 0 rfl) ?_
        refine va_get (D := D) (ci := 12) (v := .ref a_p0_isKept) (C := RX12) (T := TX12) (N := 37) hx hb hts inX12_keepDraft_X12 hown hK hP 0 rfl rfl 1 (by decide) (hts _ mwX12_keepDraft_5) (fun _ h9 => h9) rfl dX12_keepDraft_125 ?_
        refine lv_iconst (v := (1 : Int32)) hx hb dX12_keepDraft_128 (by decide) ?_
        refine lv_iconst (v := (0 : Int32)) hx hb dX12_keepDraft_129 (by decide) ?_
        have hc := ck_c hf
        replace hf := ck_r hf
        refine gs_zast (wf := fun w12 => [(a_p0, .inr (12, [.ref a_p0_st, .ref a_p0_isKept, .int z4, .int z5, .ref a_p0_brings, .ref a_p0_need, .ref a_p0_draft, .int i_p0_dSeats, .int i_p0_dStirs, .ref a_p0_dStir, .ref a_p0_dNeed, .int i_p0_told, .int i_p0_highest, .ref a_p0_tape, .int i_p0_taped, .int i_p0_pos, .int i_p0_from, .int i_p0_sort, .int i_p0_value, .int i_p0_fault, .int i_p0_wrongAt, .ref a_p0_places, .ref a_p0_stirred, .ref a_p0_ways, .ref a_p0_waysThen, .ref a_p0_stays, .ref a_p0_fewest, .ref a_p0_bowls, .ref a_p0_has, .ref a_p0_goesOn, .ref a_p0_isThere, .ref a_p0_isThereThen, .ref a_p0_bestRow, .ref a_p0_lanes, .ref a_p0_sizes, .ref a_p0_cells, .int i_p0_torn])), (a_p0_st, .inl (G 1, 152, .inl w2)), (a_p0_isKept, .inl (G 3, 2, .inl w12)), (a_p0_need, .inl (G 1, 7, .inl w7)), (a_p0_draft, .inl (G 1, 38, .inl v_p0_draft)), (a_p0_dNeed, .inl (G 1, 7, .inl v_p0_dNeed))]) hx hb hK hP hD hS 2 3 rfl rfl (ixB_in hc) dX12_keepDraft_130 (fun _ => rfl) (fun w12 ez H locs hP hD hS => ?_)
        replace hf := bnd_s hf ez
        clear ez hc
        obtain ⟨rfl, rfl, rfl, rfl, rfl⟩ := ou5 hf
        rw [hQ]
        exact W.vret hx hb hr (fun t ht hW => ⟨⟨(), rfl, trivial, by rw [ht]; exact hP, va_K.moved hW.alike hK, hD⟩, hS.F ht⟩) hS.2.2 dX12_keepDraft_131
      have hq := lq1_i hf
      clear hf
      obtain ⟨B14, eB14, NB14, hf⟩ := hq
      have hB14 : ∀ (n : Nat) (z13 : Int32) (ls : Array Slot) (H : Heap) (locs : List Loc), lv_has ls 3 [(1, .int z13), (0, .ref a_p0)] → va_P D vwCl [(a_p0, .inr (12, [.ref a_p0_st, .ref a_p0_isKept, .int z4, .int z5, .ref a_p0_brings, .ref a_p0_need, .ref a_p0_draft, .int i_p0_dSeats, .int i_p0_dStirs, .ref a_p0_dStir, .ref a_p0_dNeed, .int i_p0_told, .int i_p0_highest, .ref a_p0_tape, .int i_p0_taped, .int i_p0_pos, .int i_p0_from, .int i_p0_sort, .int i_p0_value, .int i_p0_fault, .int i_p0_wrongAt, .ref a_p0_places, .ref a_p0_stirred, .ref a_p0_ways, .ref a_p0_waysThen, .ref a_p0_stays, .ref a_p0_fewest, .ref a_p0_bowls, .ref a_p0_has, .ref a_p0_goesOn, .ref a_p0_isThere, .ref a_p0_isThereThen, .ref a_p0_bestRow, .ref a_p0_lanes, .ref a_p0_sizes, .ref a_p0_cells, .int i_p0_torn])), (a_p0_st, .inl (G 1, 152, .inl w2)), (a_p0_isKept, .inl (G 3, 2, .inl v_p0_isKept)), (a_p0_need, .inl (G 1, 7, .inl w7)), (a_p0_draft, .inl (G 1, 38, .inl v_p0_draft)), (a_p0_dNeed, .inl (G 1, 7, .inl v_p0_dNeed))] H → va_D A [(a_p0, .inr (12, [.ref a_p0_st, .ref a_p0_isKept, .int z4, .int z5, .ref a_p0_brings, .ref a_p0_need, .ref a_p0_draft, .int i_p0_dSeats, .int i_p0_dStirs, .ref a_p0_dStir, .ref a_p0_dNeed, .int i_p0_told, .int i_p0_highest, .ref a_p0_tape, .int i_p0_taped, .int i_p0_pos, .int i_p0_from, .int i_p0_sort, .int i_p0_value, .int i_p0_fault, .int i_p0_wrongAt, .ref a_p0_places, .ref a_p0_stirred, .ref a_p0_ways, .ref a_p0_waysThen, .ref a_p0_stays, .ref a_p0_fewest, .ref a_p0_bowls, .ref a_p0_has, .ref a_p0_goesOn, .ref a_p0_isThere, .ref a_p0_isThereThen, .ref a_p0_bestRow, .ref a_p0_lanes, .ref a_p0_sizes, .ref a_p0_cells, .int i_p0_torn])), (a_p0_st, .inl (G 1, 152, .inl w2)), (a_p0_isKept, .inl (G 3, 2, .inl v_p0_isKept)), (a_p0_need, .inl (G 1, 7, .inl w7)), (a_p0_draft, .inl (G 1, 38, .inl v_p0_draft)), (a_p0_dNeed, .inl (G 1, 7, .inl v_p0_dNeed))] → va_S A s.heap H locs → lq1 B14 n z13 = some (o_i_p0_seats, o_i_p0_stirs, o_v_p0_st, o_v_p0_isKept, o_v_p0_need) → W p l e rm_X12_keepDraft s m ([.ref a_p0] : List Value).toArray below meth c H locs 0 0 Q (F0 m 70 ls []) := by
        clear hf hl hP hD hS
        intro n
        induction n with
        | zero =>
          intro z13 ls H locs hl hP hD hS hf
          exact (lq1_0 hf).elim
        | succ n ih70 =>
          intro z13 ls H locs hl hP hD hS hf
          replace hf := lq1_s eB14 hf
          unfold B_X12_keepDraft_70 at hf
          refine lv_iload_n hx hb dX12_keepDraft_70 rfl (lv_at hl 0 rfl) ?_
          refine lv_aload_n hx hb dX12_keepDraft_71 rfl (lv_at hl 1 rfl) ?_
          refine va_get (D := D) (ci := 12) (v := .int z5) (C := RX12) (T := TX12) (N := 37) hx hb hts inX12_keepDraft_X12 hown hK hP 0 rfl rfl 3 (by decide) (hts _ mwX12_keepDraft_4) (fun _ h9 => h9) rfl dX12_keepDraft_72 ?_
          refine lv_icmp_ge (tgt := 117) hx hb dX12_keepDraft_75 (by decide) (fun cc => ?_) (fun cc => ?_)
          ·
            replace hf := ite_t cc hf
            clear cc
            exact hJ10  _ _ _ (lv_sub hl [1] rfl) hP hD hS hf
          ·
            replace hf := ite_f cc hf
            clear cc
            refine lv_iconst (v := (0 : Int32)) hx hb dX12_keepDraft_78 (by decide) ?_
            refine lv_topi (fun z15 ez => ?_)
            replace hf := bnd_s hf ez
            clear ez
            refine lv_istore_n (lv' := [(2, .int z15), (1, .int z13), (0, .ref a_p0)]) hx hb dX12_keepDraft_79 rfl hl (by decide) rfl (fun ls hl => ?_)
            have hq := lq1_i hf
            clear hf
            obtain ⟨B17, eB17, NB17, hf⟩ := hq
            have hB17 : ∀ (n : Nat) (z16 : Int32) (ls : Array Slot) (H : Heap) (locs : List Loc), lv_has ls 3 [(2, .int z16), (1, .int z13), (0, .ref a_p0)] → va_P D vwCl [(a_p0, .inr (12, [.ref a_p0_st, .ref a_p0_isKept, .int z4, .int z5, .ref a_p0_brings, .ref a_p0_need, .ref a_p0_draft, .int i_p0_dSeats, .int i_p0_dStirs, .ref a_p0_dStir, .ref a_p0_dNeed, .int i_p0_told, .int i_p0_highest, .ref a_p0_tape, .int i_p0_taped, .int i_p0_pos, .int i_p0_from, .int i_p0_sort, .int i_p0_value, .int i_p0_fault, .int i_p0_wrongAt, .ref a_p0_places, .ref a_p0_stirred, .ref a_p0_ways, .ref a_p0_waysThen, .ref a_p0_stays, .ref a_p0_fewest, .ref a_p0_bowls, .ref a_p0_has, .ref a_p0_goesOn, .ref a_p0_isThere, .ref a_p0_isThereThen, .ref a_p0_bestRow, .ref a_p0_lanes, .ref a_p0_sizes, .ref a_p0_cells, .int i_p0_torn])), (a_p0_st, .inl (G 1, 152, .inl w2)), (a_p0_isKept, .inl (G 3, 2, .inl v_p0_isKept)), (a_p0_need, .inl (G 1, 7, .inl w7)), (a_p0_draft, .inl (G 1, 38, .inl v_p0_draft)), (a_p0_dNeed, .inl (G 1, 7, .inl v_p0_dNeed))] H → va_D A [(a_p0, .inr (12, [.ref a_p0_st, .ref a_p0_isKept, .int z4, .int z5, .ref a_p0_brings, .ref a_p0_need, .ref a_p0_draft, .int i_p0_dSeats, .int i_p0_dStirs, .ref a_p0_dStir, .ref a_p0_dNeed, .int i_p0_told, .int i_p0_highest, .ref a_p0_tape, .int i_p0_taped, .int i_p0_pos, .int i_p0_from, .int i_p0_sort, .int i_p0_value, .int i_p0_fault, .int i_p0_wrongAt, .ref a_p0_places, .ref a_p0_stirred, .ref a_p0_ways, .ref a_p0_waysThen, .ref a_p0_stays, .ref a_p0_fewest, .ref a_p0_bowls, .ref a_p0_has, .ref a_p0_goesOn, .ref a_p0_isThere, .ref a_p0_isThereThen, .ref a_p0_bestRow, .ref a_p0_lanes, .ref a_p0_sizes, .ref a_p0_cells, .int i_p0_torn])), (a_p0_st, .inl (G 1, 152, .inl w2)), (a_p0_isKept, .inl (G 3, 2, .inl v_p0_isKept)), (a_p0_need, .inl (G 1, 7, .inl w7)), (a_p0_draft, .inl (G 1, 38, .inl v_p0_draft)), (a_p0_dNeed, .inl (G 1, 7, .inl v_p0_dNeed))] → va_S A s.heap H locs → lq1 B17 n z16 = some (o_i_p0_seats, o_i_p0_stirs, o_v_p0_st, o_v_p0_isKept, o_v_p0_need) → W p l e rm_X12_keepDraft s m ([.ref a_p0] : List Value).toArray below meth c H locs 0 0 Q (F0 m 80 ls []) := by
              clear hf hl hP hD hS
              intro n
              induction n with
              | zero =>
                intro z16 ls H locs hl hP hD hS hf
                exact (lq1_0 hf).elim
              | succ n ih80 =>
                intro z16 ls H locs hl hP hD hS hf
                replace hf := lq1_s eB17 hf
                unfold B_X12_keepDraft_80 at hf
                refine lv_iload_n hx hb dX12_keepDraft_80 rfl (lv_at hl 0 rfl) ?_
                refine lv_aload_n hx hb dX12_keepDraft_81 rfl (lv_at hl 2 rfl) ?_
                refine va_get (D := D) (ci := 12) (v := .int z4) (C := RX12) (T := TX12) (N := 37) hx hb hts inX12_keepDraft_X12 hown hK hP 0 rfl rfl 2 (by decide) (hts _ mwX12_keepDraft_2) (fun _ h9 => h9) rfl dX12_keepDraft_82 ?_
                refine lv_icmp_ge (tgt := 111) hx hb dX12_keepDraft_85 (by decide) (fun cc => ?_) (fun cc => ?_)
                ·
                  replace hf := ite_t cc hf
                  clear cc
                  obtain ⟨z18, ez⟩ : ∃ y : Int32, y = (z13 + (1 : Int32)) := ⟨_, rfl⟩
                  replace hf := bnd_s hf ez
                  refine lv_iinc (v := z18) (lv' := [(1, .int z18), (2, .int z16), (0, .ref a_p0)]) hx hb dX12_keepDraft_111 hl (k := 1) rfl (by rw [ez]; rfl) (by decide) rfl (fun ls hl => ?_)
                  clear ez
                  refine lv_goto (tgt := 70) hx hb dX12_keepDraft_114 (by decide) ?_
                  exact ih70 _ _ _ _ (lv_sub hl [0, 2] rfl) hP hD hS hf
                ·
                  replace hf := ite_f cc hf
                  clear cc
                  refine lv_aload_n hx hb dX12_keepDraft_88 rfl (lv_at hl 2 rfl) ?_
                  refine va_get (D := D) (ci := 12) (v := .ref a_p0_brings) (C := RX12) (T := TX12) (N := 37) hx hb hts inX12_keepDraft_X12 hown hK hP 0 rfl rfl 4 (by decide) (hts _ mwX12_keepDraft_6) (fun _ h9 => h9) rfl dX12_keepDraft_89 ?_
                  refine lv_bipush (v := (7 : Int32)) hx hb dX12_keepDraft_92 (by decide) ?_
                  refine lv_iload_n hx hb dX12_keepDraft_94 rfl (lv_at hl 1 rfl) ?_
                  refine lv_imul hx hb dX12_keepDraft_95 ?_
                  refine lv_iload_n hx hb dX12_keepDraft_96 rfl (lv_at hl 0 rfl) ?_
                  refine lv_iadd hx hb dX12_keepDraft_97 ?_
                  refine lv_aload_n hx hb dX12_keepDraft_98 rfl (lv_at hl 2 rfl) ?_
                  refine lv_iload_n hx hb dX12_keepDraft_99 rfl (lv_at hl 1 rfl) ?_
                  refine lv_iload_n hx hb dX12_keepDraft_100 rfl (lv_at hl 0 rfl) ?_
                  cases hf
            exact hB17 _ _ _ _ _ (lv_sub hl [0, 1, 2] rfl) hP hD hS hf
      exact hB14 _ _ _ _ _ (lv_sub hl [0, 1] rfl) hP hD hS hf
    have hq := lq2_i hf
    clear hf
    obtain ⟨B21, eB21, NB21, hf⟩ := hq
    have hB21 : ∀ (n : Nat) (z19 : Int32) (w20 : (Nat → Int32)) (ls : Array Slot) (H : Heap) (locs : List Loc), lv_has ls 3 [(1, .int z19), (0, .ref a_p0)] → va_P D vwCl [(a_p0, .inr (12, [.ref a_p0_st, .ref a_p0_isKept, .int z4, .int z5, .ref a_p0_brings, .ref a_p0_need, .ref a_p0_draft, .int i_p0_dSeats, .int i_p0_dStirs, .ref a_p0_dStir, .ref a_p0_dNeed, .int i_p0_told, .int i_p0_highest, .ref a_p0_tape, .int i_p0_taped, .int i_p0_pos, .int i_p0_from, .int i_p0_sort, .int i_p0_value, .int i_p0_fault, .int i_p0_wrongAt, .ref a_p0_places, .ref a_p0_stirred, .ref a_p0_ways, .ref a_p0_waysThen, .ref a_p0_stays, .ref a_p0_fewest, .ref a_p0_bowls, .ref a_p0_has, .ref a_p0_goesOn, .ref a_p0_isThere, .ref a_p0_isThereThen, .ref a_p0_bestRow, .ref a_p0_lanes, .ref a_p0_sizes, .ref a_p0_cells, .int i_p0_torn])), (a_p0_st, .inl (G 1, 152, .inl w2)), (a_p0_isKept, .inl (G 3, 2, .inl v_p0_isKept)), (a_p0_need, .inl (G 1, 7, .inl w20)), (a_p0_draft, .inl (G 1, 38, .inl v_p0_draft)), (a_p0_dNeed, .inl (G 1, 7, .inl v_p0_dNeed))] H → va_D A [(a_p0, .inr (12, [.ref a_p0_st, .ref a_p0_isKept, .int z4, .int z5, .ref a_p0_brings, .ref a_p0_need, .ref a_p0_draft, .int i_p0_dSeats, .int i_p0_dStirs, .ref a_p0_dStir, .ref a_p0_dNeed, .int i_p0_told, .int i_p0_highest, .ref a_p0_tape, .int i_p0_taped, .int i_p0_pos, .int i_p0_from, .int i_p0_sort, .int i_p0_value, .int i_p0_fault, .int i_p0_wrongAt, .ref a_p0_places, .ref a_p0_stirred, .ref a_p0_ways, .ref a_p0_waysThen, .ref a_p0_stays, .ref a_p0_fewest, .ref a_p0_bowls, .ref a_p0_has, .ref a_p0_goesOn, .ref a_p0_isThere, .ref a_p0_isThereThen, .ref a_p0_bestRow, .ref a_p0_lanes, .ref a_p0_sizes, .ref a_p0_cells, .int i_p0_torn])), (a_p0_st, .inl (G 1, 152, .inl w2)), (a_p0_isKept, .inl (G 3, 2, .inl v_p0_isKept)), (a_p0_need, .inl (G 1, 7, .inl w20)), (a_p0_draft, .inl (G 1, 38, .inl v_p0_draft)), (a_p0_dNeed, .inl (G 1, 7, .inl v_p0_dNeed))] → va_S A s.heap H locs → lq2 B21 n z19 w20 = some (o_i_p0_seats, o_i_p0_stirs, o_v_p0_st, o_v_p0_isKept, o_v_p0_need) → W p l e rm_X12_keepDraft s m ([.ref a_p0] : List Value).toArray below meth c H locs 0 0 Q (F0 m 44 ls []) := by
      clear hf hl hP hD hS
      intro n
      induction n with
      | zero =>
        intro z19 w20 ls H locs hl hP hD hS hf
        exact (lq2_0 hf).elim
      | succ n ih44 =>
        intro z19 w20 ls H locs hl hP hD hS hf
        replace hf := lq2_s eB21 hf
        unfold B_X12_keepDraft_44 at hf
        refine lv_iload_n hx hb dX12_keepDraft_44 rfl (lv_at hl 0 rfl) ?_
        refine lv_bipush (v := (7 : Int32)) hx hb dX12_keepDraft_45 (by decide) ?_
        refine lv_icmp_ge (tgt := 68) hx hb dX12_keepDraft_47 (by decide) (fun cc => ?_) (fun cc => ?_)
        ·
          replace hf := ite_t cc hf
          clear cc
          exact hJ8 _ _ _ _ (lv_sub hl [1] rfl) hP hD hS hf
        ·
          replace hf := ite_f cc hf
          clear cc
          refine lv_aload_n hx hb dX12_keepDraft_50 rfl (lv_at hl 1 rfl) ?_
          refine va_get (D := D) (ci := 12) (v := .ref a_p0_need) (C := RX12) (T := TX12) (N := 37) hx hb hts inX12_keepDraft_X12 hown hK hP 0 rfl rfl 5 (by decide) (hts _ mwX12_keepDraft_7) (fun _ h9 => h9) rfl dX12_keepDraft_51 ?_
          refine lv_iload_n hx hb dX12_keepDraft_54 rfl (lv_at hl 0 rfl) ?_
          refine lv_aload_n hx hb dX12_keepDraft_55 rfl (lv_at hl 1 rfl) ?_
          refine va_get (D := D) (ci := 12) (v := .ref a_p0_dNeed) (C := RX12) (T := TX12) (N := 37) hx hb hts inX12_keepDraft_X12 hown hK hP 0 rfl rfl 10 (by decide) (hts _ mwX12_keepDraft_8) (fun _ h9 => h9) rfl dX12_keepDraft_56 ?_
          refine lv_iload_n hx hb dX12_keepDraft_59 rfl (lv_at hl 0 rfl) ?_
          have hc := ck_c hf
          replace hf := ck_r hf
          refine va_iald hx hb hK hP 5 1 rfl rfl (ixB_in hc) dX12_keepDraft_60 ?_
          clear hc
          have hc := ck_c hf
          replace hf := ck_r hf
          refine gs_iast (wf := fun w22 => [(a_p0, .inr (12, [.ref a_p0_st, .ref a_p0_isKept, .int z4, .int z5, .ref a_p0_brings, .ref a_p0_need, .ref a_p0_draft, .int i_p0_dSeats, .int i_p0_dStirs, .ref a_p0_dStir, .ref a_p0_dNeed, .int i_p0_told, .int i_p0_highest, .ref a_p0_tape, .int i_p0_taped, .int i_p0_pos, .int i_p0_from, .int i_p0_sort, .int i_p0_value, .int i_p0_fault, .int i_p0_wrongAt, .ref a_p0_places, .ref a_p0_stirred, .ref a_p0_ways, .ref a_p0_waysThen, .ref a_p0_stays, .ref a_p0_fewest, .ref a_p0_bowls, .ref a_p0_has, .ref a_p0_goesOn, .ref a_p0_isThere, .ref a_p0_isThereThen, .ref a_p0_bestRow, .ref a_p0_lanes, .ref a_p0_sizes, .ref a_p0_cells, .int i_p0_torn])), (a_p0_st, .inl (G 1, 152, .inl w2)), (a_p0_isKept, .inl (G 3, 2, .inl v_p0_isKept)), (a_p0_need, .inl (G 1, 7, .inl w22)), (a_p0_draft, .inl (G 1, 38, .inl v_p0_draft)), (a_p0_dNeed, .inl (G 1, 7, .inl v_p0_dNeed))]) hx hb hK hP hD hS 3 1 rfl rfl (ixB_in hc) dX12_keepDraft_61 (fun _ => rfl) (fun w22 ez H locs hP hD hS => ?_)
          replace hf := bnd_s hf ez
          clear ez hc
          obtain ⟨z23, ez⟩ : ∃ y : Int32, y = (z19 + (1 : Int32)) := ⟨_, rfl⟩
          replace hf := bnd_s hf ez
          refine lv_iinc (v := z23) (lv' := [(1, .int z23), (0, .ref a_p0)]) hx hb dX12_keepDraft_62 hl (k := 0) rfl (by rw [ez]; rfl) (by decide) rfl (fun ls hl => ?_)
          clear ez
          refine lv_goto (tgt := 44) hx hb dX12_keepDraft_65 (by decide) ?_
          exact ih44 _ _ _ _ _ (lv_sub hl [0, 1] rfl) hP hD hS hf
    exact hB21 _ _ _ _ _ _ (lv_sub hl [0, 1] rfl) hP hD hS hf
  have hq := lq2_i hf
  clear hf
  obtain ⟨B26, eB26, NB26, hf⟩ := hq
  have hB26 : ∀ (n : Nat) (z24 : Int32) (w25 : (Nat → Int32)) (ls : Array Slot) (H : Heap) (locs : List Loc), lv_has ls 3 [(1, .int z24), (0, .ref a_p0)] → va_P D vwCl [(a_p0, .inr (12, [.ref a_p0_st, .ref a_p0_isKept, .int i_p0_seats, .int i_p0_stirs, .ref a_p0_brings, .ref a_p0_need, .ref a_p0_draft, .int i_p0_dSeats, .int i_p0_dStirs, .ref a_p0_dStir, .ref a_p0_dNeed, .int i_p0_told, .int i_p0_highest, .ref a_p0_tape, .int i_p0_taped, .int i_p0_pos, .int i_p0_from, .int i_p0_sort, .int i_p0_value, .int i_p0_fault, .int i_p0_wrongAt, .ref a_p0_places, .ref a_p0_stirred, .ref a_p0_ways, .ref a_p0_waysThen, .ref a_p0_stays, .ref a_p0_fewest, .ref a_p0_bowls, .ref a_p0_has, .ref a_p0_goesOn, .ref a_p0_isThere, .ref a_p0_isThereThen, .ref a_p0_bestRow, .ref a_p0_lanes, .ref a_p0_sizes, .ref a_p0_cells, .int i_p0_torn])), (a_p0_st, .inl (G 1, 152, .inl w25)), (a_p0_isKept, .inl (G 3, 2, .inl v_p0_isKept)), (a_p0_need, .inl (G 1, 7, .inl v_p0_need)), (a_p0_draft, .inl (G 1, 38, .inl v_p0_draft)), (a_p0_dNeed, .inl (G 1, 7, .inl v_p0_dNeed))] H → va_D A [(a_p0, .inr (12, [.ref a_p0_st, .ref a_p0_isKept, .int i_p0_seats, .int i_p0_stirs, .ref a_p0_brings, .ref a_p0_need, .ref a_p0_draft, .int i_p0_dSeats, .int i_p0_dStirs, .ref a_p0_dStir, .ref a_p0_dNeed, .int i_p0_told, .int i_p0_highest, .ref a_p0_tape, .int i_p0_taped, .int i_p0_pos, .int i_p0_from, .int i_p0_sort, .int i_p0_value, .int i_p0_fault, .int i_p0_wrongAt, .ref a_p0_places, .ref a_p0_stirred, .ref a_p0_ways, .ref a_p0_waysThen, .ref a_p0_stays, .ref a_p0_fewest, .ref a_p0_bowls, .ref a_p0_has, .ref a_p0_goesOn, .ref a_p0_isThere, .ref a_p0_isThereThen, .ref a_p0_bestRow, .ref a_p0_lanes, .ref a_p0_sizes, .ref a_p0_cells, .int i_p0_torn])), (a_p0_st, .inl (G 1, 152, .inl w25)), (a_p0_isKept, .inl (G 3, 2, .inl v_p0_isKept)), (a_p0_need, .inl (G 1, 7, .inl v_p0_need)), (a_p0_draft, .inl (G 1, 38, .inl v_p0_draft)), (a_p0_dNeed, .inl (G 1, 7, .inl v_p0_dNeed))] → va_S A s.heap H locs → lq2 B26 n z24 w25 = some (o_i_p0_seats, o_i_p0_stirs, o_v_p0_st, o_v_p0_isKept, o_v_p0_need) → W p l e rm_X12_keepDraft s m ([.ref a_p0] : List Value).toArray below meth c H locs 0 0 Q (F0 m 2 ls []) := by
    clear hf hl hP hD hS
    intro n
    induction n with
    | zero =>
      intro z24 w25 ls H locs hl hP hD hS hf
      exact (lq2_0 hf).elim
    | succ n ih2 =>
      intro z24 w25 ls H locs hl hP hD hS hf
      replace hf := lq2_s eB26 hf
      unfold B_X12_keepDraft_2 at hf
      refine lv_iload_n hx hb dX12_keepDraft_2 rfl (lv_at hl 0 rfl) ?_
      refine lv_bipush (v := (38 : Int32)) hx hb dX12_keepDraft_3 (by decide) ?_
      refine lv_icmp_ge (tgt := 26) hx hb dX12_keepDraft_5 (by decide) (fun cc => ?_) (fun cc => ?_)
      ·
        replace hf := ite_t cc hf
        clear cc
        exact hJ3 _ _ _ _ (lv_sub hl [1] rfl) hP hD hS hf
      ·
        replace hf := ite_f cc hf
        clear cc
        refine lv_aload_n hx hb dX12_keepDraft_8 rfl (lv_at hl 1 rfl) ?_
        refine va_get (D := D) (ci := 12) (v := .ref a_p0_st) (C := RX12) (T := TX12) (N := 37) hx hb hts inX12_keepDraft_X12 hown hK hP 0 rfl rfl 0 (by decide) (hts _ mwX12_keepDraft_9) (fun _ h9 => h9) rfl dX12_keepDraft_9 ?_
        refine lv_iload_n hx hb dX12_keepDraft_12 rfl (lv_at hl 0 rfl) ?_
        refine lv_aload_n hx hb dX12_keepDraft_13 rfl (lv_at hl 1 rfl) ?_
        refine va_get (D := D) (ci := 12) (v := .ref a_p0_draft) (C := RX12) (T := TX12) (N := 37) hx hb hts inX12_keepDraft_X12 hown hK hP 0 rfl rfl 6 (by decide) (hts _ mwX12_keepDraft_10) (fun _ h9 => h9) rfl dX12_keepDraft_14 ?_
        refine lv_iload_n hx hb dX12_keepDraft_17 rfl (lv_at hl 0 rfl) ?_
        have hc := ck_c hf
        replace hf := ck_r hf
        refine va_iald hx hb hK hP 4 1 rfl rfl (ixB_in hc) dX12_keepDraft_18 ?_
        clear hc
        have hc := ck_c hf
        replace hf := ck_r hf
        refine gs_iast (wf := fun w27 => [(a_p0, .inr (12, [.ref a_p0_st, .ref a_p0_isKept, .int i_p0_seats, .int i_p0_stirs, .ref a_p0_brings, .ref a_p0_need, .ref a_p0_draft, .int i_p0_dSeats, .int i_p0_dStirs, .ref a_p0_dStir, .ref a_p0_dNeed, .int i_p0_told, .int i_p0_highest, .ref a_p0_tape, .int i_p0_taped, .int i_p0_pos, .int i_p0_from, .int i_p0_sort, .int i_p0_value, .int i_p0_fault, .int i_p0_wrongAt, .ref a_p0_places, .ref a_p0_stirred, .ref a_p0_ways, .ref a_p0_waysThen, .ref a_p0_stays, .ref a_p0_fewest, .ref a_p0_bowls, .ref a_p0_has, .ref a_p0_goesOn, .ref a_p0_isThere, .ref a_p0_isThereThen, .ref a_p0_bestRow, .ref a_p0_lanes, .ref a_p0_sizes, .ref a_p0_cells, .int i_p0_torn])), (a_p0_st, .inl (G 1, 152, .inl w27)), (a_p0_isKept, .inl (G 3, 2, .inl v_p0_isKept)), (a_p0_need, .inl (G 1, 7, .inl v_p0_need)), (a_p0_draft, .inl (G 1, 38, .inl v_p0_draft)), (a_p0_dNeed, .inl (G 1, 7, .inl v_p0_dNeed))]) hx hb hK hP hD hS 1 1 rfl rfl (ixB_in hc) dX12_keepDraft_19 (fun _ => rfl) (fun w27 ez H locs hP hD hS => ?_)
        replace hf := bnd_s hf ez
        clear ez hc
        obtain ⟨z28, ez⟩ : ∃ y : Int32, y = (z24 + (1 : Int32)) := ⟨_, rfl⟩
        replace hf := bnd_s hf ez
        refine lv_iinc (v := z28) (lv' := [(1, .int z28), (0, .ref a_p0)]) hx hb dX12_keepDraft_20 hl (k := 0) rfl (by rw [ez]; rfl) (by decide) rfl (fun ls hl => ?_)
        clear ez
        refine lv_goto (tgt := 2) hx hb dX12_keepDraft_23 (by decide) ?_
        exact ih2 _ _ _ _ _ (lv_sub hl [0, 1] rfl) hP hD hS hf
  exact hB26 _ _ _ _ _ _ (lv_sub hl [0, 1] rfl) hP hD hS hf

noncomputable def B_X12_feed_19 (x1 : Int64) (again19 : Int32 → Int32 → (Nat → Int32) → Option (Int32 × Int32 × (Nat → Int32))) (z2 : Int32) (z3 : Int32) (w4 : (Nat → Int32)) : Option (Int32 × Int32 × (Nat → Int32)) := (if z2 < 0 then (some (z3, z3, w4)) else (ck (ixB z3 320) (bnd (upd w4 (z3).toNatClampNeg (((x1 >>> (z2.toInt64 &&& 63)) &&& (255 : Int64))).toInt32) (fun (w6 : (Nat → Int32)) => (bnd (z3 + (1 : Int32)) (fun (z7 : Int32) => (bnd (z2 + (-8 : Int32)) (fun (z8 : Int32) => (again19 z8 z7 w6)))))))))
noncomputable def f_X12_feed (i_p0_taped : Int32) (v_p0_tape : (Nat → Int32)) (x1 : Int64) : Option (Int32 × Int32 × (Nat → Int32)) := (if (i_p0_taped + (8 : Int32)) ≤ (320 : Int32) then (bnd (56 : Int32) (fun (z1 : Int32) => (lq3 (B_X12_feed_19 x1) 1000 z1 i_p0_taped v_p0_tape))) else (some ((-3 : Int32), i_p0_taped, v_p0_tape)))
abbrev rm_X12_feed : Room := { frames := 0, cells := 0, slots := 0, locals := 0 }
theorem inX12_feed_X12 : ∀ w ∈ wsX120, w ∈ wsX12_feed := by decide +kernel
theorem mwX12_feed_1 : Cond.fieldLink RX12 110 "LadleKingsModel" "taped" "I" ∈ wsX12_feed := by decide +kernel
theorem mwX12_feed_2 : Cond.fieldLink RX12 32 "LadleKingsModel" "tape" "[I" ∈ wsX12_feed := by decide +kernel
theorem mwX12_feed_3 : Cond.constantLong RX12 113 (255) ∈ wsX12_feed := by decide +kernel
set_option maxHeartbeats 8000000 in
set_option maxRecDepth 100000 in
theorem c_X12_feed (l : Launch) (D : va_G) (G : Nat → ClassId) (sz : Nat) (a_p0 : Nat) (a_p0_st : Nat) (a_p0_isKept : Nat) (a_p0_brings : Nat) (a_p0_need : Nat) (a_p0_draft : Nat) (a_p0_dStir : Nat) (a_p0_dNeed : Nat) (a_p0_tape : Nat) (a_p0_places : Nat) (a_p0_stirred : Nat) (a_p0_ways : Nat) (a_p0_waysThen : Nat) (a_p0_stays : Nat) (a_p0_fewest : Nat) (a_p0_bowls : Nat) (a_p0_has : Nat) (a_p0_goesOn : Nat) (a_p0_isThere : Nat) (a_p0_isThereThen : Nat) (a_p0_bestRow : Nat) (a_p0_lanes : Nat) (a_p0_sizes : Nat) (a_p0_cells : Nat) (i_p0_seats : Int32) (i_p0_stirs : Int32) (i_p0_dSeats : Int32) (i_p0_dStirs : Int32) (i_p0_told : Int32) (i_p0_highest : Int32) (i_p0_taped : Int32) (i_p0_pos : Int32) (i_p0_from : Int32) (i_p0_sort : Int32) (i_p0_value : Int32) (i_p0_fault : Int32) (i_p0_wrongAt : Int32) (i_p0_torn : Int32) (v_p0_tape : (Nat → Int32)) (x1 : Int64) (r : Int32) (o_i_p0_taped : Int32) (o_v_p0_tape : (Nat → Int32)) (hf : f_X12_feed i_p0_taped v_p0_tape x1 = some (r, o_i_p0_taped, o_v_p0_tape)) : Met l yX12_feed wsX12_feed rm_X12_feed (pcG D G [.ref a_p0, .long x1] sz [(a_p0, .inr (12, [.ref a_p0_st, .ref a_p0_isKept, .int i_p0_seats, .int i_p0_stirs, .ref a_p0_brings, .ref a_p0_need, .ref a_p0_draft, .int i_p0_dSeats, .int i_p0_dStirs, .ref a_p0_dStir, .ref a_p0_dNeed, .int i_p0_told, .int i_p0_highest, .ref a_p0_tape, .int i_p0_taped, .int i_p0_pos, .int i_p0_from, .int i_p0_sort, .int i_p0_value, .int i_p0_fault, .int i_p0_wrongAt, .ref a_p0_places, .ref a_p0_stirred, .ref a_p0_ways, .ref a_p0_waysThen, .ref a_p0_stays, .ref a_p0_fewest, .ref a_p0_bowls, .ref a_p0_has, .ref a_p0_goesOn, .ref a_p0_isThere, .ref a_p0_isThereThen, .ref a_p0_bestRow, .ref a_p0_lanes, .ref a_p0_sizes, .ref a_p0_cells, .int i_p0_torn])), (a_p0_tape, .inl (G 1, 320, .inl v_p0_tape))]) (qcI D G r [(a_p0, .inr (12, [.ref a_p0_st, .ref a_p0_isKept, .int i_p0_seats, .int i_p0_stirs, .ref a_p0_brings, .ref a_p0_need, .ref a_p0_draft, .int i_p0_dSeats, .int i_p0_dStirs, .ref a_p0_dStir, .ref a_p0_dNeed, .int i_p0_told, .int i_p0_highest, .ref a_p0_tape, .int o_i_p0_taped, .int i_p0_pos, .int i_p0_from, .int i_p0_sort, .int i_p0_value, .int i_p0_fault, .int i_p0_wrongAt, .ref a_p0_places, .ref a_p0_stirred, .ref a_p0_ways, .ref a_p0_waysThen, .ref a_p0_stays, .ref a_p0_fewest, .ref a_p0_bowls, .ref a_p0_has, .ref a_p0_goesOn, .ref a_p0_isThere, .ref a_p0_isThereThen, .ref a_p0_bestRow, .ref a_p0_lanes, .ref a_p0_sizes, .ref a_p0_cells, .int i_p0_torn])), (a_p0_tape, .inl (G 1, 320, .inl o_v_p0_tape))] (va_A [(a_p0, .inr (12, [.ref a_p0_st, .ref a_p0_isKept, .int i_p0_seats, .int i_p0_stirs, .ref a_p0_brings, .ref a_p0_need, .ref a_p0_draft, .int i_p0_dSeats, .int i_p0_dStirs, .ref a_p0_dStir, .ref a_p0_dNeed, .int i_p0_told, .int i_p0_highest, .ref a_p0_tape, .int i_p0_taped, .int i_p0_pos, .int i_p0_from, .int i_p0_sort, .int i_p0_value, .int i_p0_fault, .int i_p0_wrongAt, .ref a_p0_places, .ref a_p0_stirred, .ref a_p0_ways, .ref a_p0_waysThen, .ref a_p0_stays, .ref a_p0_fewest, .ref a_p0_bowls, .ref a_p0_has, .ref a_p0_goesOn, .ref a_p0_isThere, .ref a_p0_isThereThen, .ref a_p0_bestRow, .ref a_p0_lanes, .ref a_p0_sizes, .ref a_p0_cells, .int i_p0_torn])), (a_p0_tape, .inl (G 1, 320, .inl v_p0_tape))] sz)) 0 0 (va_A [(a_p0, .inr (12, [.ref a_p0_st, .ref a_p0_isKept, .int i_p0_seats, .int i_p0_stirs, .ref a_p0_brings, .ref a_p0_need, .ref a_p0_draft, .int i_p0_dSeats, .int i_p0_dStirs, .ref a_p0_dStir, .ref a_p0_dNeed, .int i_p0_told, .int i_p0_highest, .ref a_p0_tape, .int i_p0_taped, .int i_p0_pos, .int i_p0_from, .int i_p0_sort, .int i_p0_value, .int i_p0_fault, .int i_p0_wrongAt, .ref a_p0_places, .ref a_p0_stirred, .ref a_p0_ways, .ref a_p0_waysThen, .ref a_p0_stays, .ref a_p0_fewest, .ref a_p0_bowls, .ref a_p0_has, .ref a_p0_goesOn, .ref a_p0_isThere, .ref a_p0_isThereThen, .ref a_p0_bestRow, .ref a_p0_lanes, .ref a_p0_sizes, .ref a_p0_cells, .int i_p0_torn])), (a_p0_tape, .inl (G 1, 320, .inl v_p0_tape))] sz) := by
  refine Met.ofW (cc := cX12_feed) (maxL := 4) (ret := (some .int)) (by decide) rfl ?_
  intro p e s m args below meth c s₁ B hml hv
  obtain ⟨rfl, hsz, hP, hK, hD0⟩ := hv
  have hx := B.exec
  have hb := B.bytes
  have hr := B.returns
  have hts := atoms_spec (ws := wsX12_feed) B.pre
  have hown : s.vm.findClass RX12 = some m.cls := findClass_of_methodNamed B.named
  have hlocks := B.notSynchronized
  subst hsz
  have hD := hD0.self (sz := s.heap.size)
  generalize hAe : va_A [(a_p0, .inr (12, [.ref a_p0_st, .ref a_p0_isKept, .int i_p0_seats, .int i_p0_stirs, .ref a_p0_brings, .ref a_p0_need, .ref a_p0_draft, .int i_p0_dSeats, .int i_p0_dStirs, .ref a_p0_dStir, .ref a_p0_dNeed, .int i_p0_told, .int i_p0_highest, .ref a_p0_tape, .int i_p0_taped, .int i_p0_pos, .int i_p0_from, .int i_p0_sort, .int i_p0_value, .int i_p0_fault, .int i_p0_wrongAt, .ref a_p0_places, .ref a_p0_stirred, .ref a_p0_ways, .ref a_p0_waysThen, .ref a_p0_stays, .ref a_p0_fewest, .ref a_p0_bowls, .ref a_p0_has, .ref a_p0_goesOn, .ref a_p0_isThere, .ref a_p0_isThereThen, .ref a_p0_bestRow, .ref a_p0_lanes, .ref a_p0_sizes, .ref a_p0_cells, .int i_p0_torn])), (a_p0_tape, .inl (G 1, 320, .inl v_p0_tape))] s.heap.size = A at hD ⊢
  have hA : ∀ q : Nat, s.heap.size ≤ q → A q := fun q h => by rw [← hAe]; exact Or.inr h
  clear hAe hD0
  have hS : va_S A s.heap s.heap [] := va_S.rf
  have hl := lv_entry ([.ref a_p0, .long x1]) (n := 4) (Nat.le_of_ble_eq_true rfl)
  rw [lg_entry_eq]
  generalize (lg_sl ([.ref a_p0, .long x1]) ++ List.replicate (4 - (lg_sl ([.ref a_p0, .long x1])).length) Slot.unset).toArray = ls at hl ⊢
  have hl : lv_has ls 4 [(0, .ref a_p0), (1, .long x1)] := hl
  refine W_nameQ (fun Q hQ => ?_)
  obtain ⟨H, hH⟩ : ∃ H, H = s.heap := ⟨_, rfl⟩
  replace hS : va_S A s.heap H [] := by rw [hH]; exact hS
  replace hP : va_P D vwCl [(a_p0, .inr (12, [.ref a_p0_st, .ref a_p0_isKept, .int i_p0_seats, .int i_p0_stirs, .ref a_p0_brings, .ref a_p0_need, .ref a_p0_draft, .int i_p0_dSeats, .int i_p0_dStirs, .ref a_p0_dStir, .ref a_p0_dNeed, .int i_p0_told, .int i_p0_highest, .ref a_p0_tape, .int i_p0_taped, .int i_p0_pos, .int i_p0_from, .int i_p0_sort, .int i_p0_value, .int i_p0_fault, .int i_p0_wrongAt, .ref a_p0_places, .ref a_p0_stirred, .ref a_p0_ways, .ref a_p0_waysThen, .ref a_p0_stays, .ref a_p0_fewest, .ref a_p0_bowls, .ref a_p0_has, .ref a_p0_goesOn, .ref a_p0_isThere, .ref a_p0_isThereThen, .ref a_p0_bestRow, .ref a_p0_lanes, .ref a_p0_sizes, .ref a_p0_cells, .int i_p0_torn])), (a_p0_tape, .inl (G 1, 320, .inl v_p0_tape))] H := by rw [hH]; exact hP
  rw [← hH]
  clear hH
  unfold f_X12_feed at hf
  refine lv_aload_n hx hb dX12_feed_0 rfl (lv_at hl 0 rfl) ?_
  refine va_get (D := D) (ci := 12) (v := .int i_p0_taped) (C := RX12) (T := TX12) (N := 37) hx hb hts inX12_feed_X12 hown hK hP 0 rfl rfl 14 (by decide) (hts _ mwX12_feed_1) (fun _ h9 => h9) rfl dX12_feed_1 ?_
  refine lv_bipush (v := (8 : Int32)) hx hb dX12_feed_4 (by decide) ?_
  refine lv_iadd hx hb dX12_feed_6 ?_
  refine lv_sipush (v := (320 : Int32)) hx hb dX12_feed_7 (by decide) ?_
  refine lv_icmp_le (tgt := 16) hx hb dX12_feed_10 (by decide) (fun cc => ?_) (fun cc => ?_)
  ·
    replace hf := ite_t cc hf
    clear cc
    refine lv_bipush (v := (56 : Int32)) hx hb dX12_feed_16 (by decide) ?_
    refine lv_topi (fun z1 ez => ?_)
    replace hf := bnd_s hf ez
    clear ez
    refine lv_istore_n (lv' := [(3, .int z1), (0, .ref a_p0), (1, .long x1)]) hx hb dX12_feed_18 rfl hl (by decide) rfl (fun ls hl => ?_)
    have hq := lq3_i hf
    clear hf
    obtain ⟨B5, eB5, NB5, hf⟩ := hq
    have hB5 : ∀ (n : Nat) (z2 : Int32) (z3 : Int32) (w4 : (Nat → Int32)) (ls : Array Slot) (H : Heap) (locs : List Loc), lv_has ls 4 [(3, .int z2), (0, .ref a_p0), (1, .long x1)] → va_P D vwCl [(a_p0, .inr (12, [.ref a_p0_st, .ref a_p0_isKept, .int i_p0_seats, .int i_p0_stirs, .ref a_p0_brings, .ref a_p0_need, .ref a_p0_draft, .int i_p0_dSeats, .int i_p0_dStirs, .ref a_p0_dStir, .ref a_p0_dNeed, .int i_p0_told, .int i_p0_highest, .ref a_p0_tape, .int z3, .int i_p0_pos, .int i_p0_from, .int i_p0_sort, .int i_p0_value, .int i_p0_fault, .int i_p0_wrongAt, .ref a_p0_places, .ref a_p0_stirred, .ref a_p0_ways, .ref a_p0_waysThen, .ref a_p0_stays, .ref a_p0_fewest, .ref a_p0_bowls, .ref a_p0_has, .ref a_p0_goesOn, .ref a_p0_isThere, .ref a_p0_isThereThen, .ref a_p0_bestRow, .ref a_p0_lanes, .ref a_p0_sizes, .ref a_p0_cells, .int i_p0_torn])), (a_p0_tape, .inl (G 1, 320, .inl w4))] H → va_D A [(a_p0, .inr (12, [.ref a_p0_st, .ref a_p0_isKept, .int i_p0_seats, .int i_p0_stirs, .ref a_p0_brings, .ref a_p0_need, .ref a_p0_draft, .int i_p0_dSeats, .int i_p0_dStirs, .ref a_p0_dStir, .ref a_p0_dNeed, .int i_p0_told, .int i_p0_highest, .ref a_p0_tape, .int z3, .int i_p0_pos, .int i_p0_from, .int i_p0_sort, .int i_p0_value, .int i_p0_fault, .int i_p0_wrongAt, .ref a_p0_places, .ref a_p0_stirred, .ref a_p0_ways, .ref a_p0_waysThen, .ref a_p0_stays, .ref a_p0_fewest, .ref a_p0_bowls, .ref a_p0_has, .ref a_p0_goesOn, .ref a_p0_isThere, .ref a_p0_isThereThen, .ref a_p0_bestRow, .ref a_p0_lanes, .ref a_p0_sizes, .ref a_p0_cells, .int i_p0_torn])), (a_p0_tape, .inl (G 1, 320, .inl w4))] → va_S A s.heap H locs → lq3 B5 n z2 z3 w4 = some (r, o_i_p0_taped, o_v_p0_tape) → W p l e rm_X12_feed s m ([.ref a_p0, .long x1] : List Value).toArray below meth c H locs 0 0 Q (F0 m 19 ls []) := by
      clear hf hl hP hD hS
      intro n
      induction n with
      | zero =>
        intro z2 z3 w4 ls H locs hl hP hD hS hf
        exact (lq3_0 hf).elim
      | succ n ih19 =>
        intro z2 z3 w4 ls H locs hl hP hD hS hf
        replace hf := lq3_s eB5 hf
        unfold B_X12_feed_19 at hf
        refine lv_iload_n hx hb dX12_feed_19 rfl (lv_at hl 0 rfl) ?_
        refine lv_if_lt (tgt := 56) hx hb dX12_feed_20 (by decide) (fun cc => ?_) (fun cc => ?_)
        ·
          replace hf := ite_t cc hf
          clear cc
          refine lv_aload_n hx hb dX12_feed_56 rfl (lv_at hl 1 rfl) ?_
          refine va_get (D := D) (ci := 12) (v := .int z3) (C := RX12) (T := TX12) (N := 37) hx hb hts inX12_feed_X12 hown hK hP 0 rfl rfl 14 (by decide) (hts _ mwX12_feed_1) (fun _ h9 => h9) rfl dX12_feed_57 ?_
          obtain ⟨rfl, rfl, rfl⟩ := ou3 hf
          rw [hQ]
          exact W.iret hx hb hr (fun t ht hW => ⟨⟨_, (), rfl, rfl, by rw [ht]; exact hP, va_K.moved hW.alike hK, hD⟩, hS.F ht⟩) hS.2.2 dX12_feed_60
        ·
          replace hf := ite_f cc hf
          clear cc
          refine lv_aload_n hx hb dX12_feed_23 rfl (lv_at hl 1 rfl) ?_
          refine va_get (D := D) (ci := 12) (v := .ref a_p0_tape) (C := RX12) (T := TX12) (N := 37) hx hb hts inX12_feed_X12 hown hK hP 0 rfl rfl 13 (by decide) (hts _ mwX12_feed_2) (fun _ h9 => h9) rfl dX12_feed_24 ?_
          refine lv_aload_n hx hb dX12_feed_27 rfl (lv_at hl 1 rfl) ?_
          refine va_get (D := D) (ci := 12) (v := .int z3) (C := RX12) (T := TX12) (N := 37) hx hb hts inX12_feed_X12 hown hK hP 0 rfl rfl 14 (by decide) (hts _ mwX12_feed_1) (fun _ h9 => h9) rfl dX12_feed_28 ?_
          refine lv_lload_n hx hb dX12_feed_31 rfl (lv_at hl 2 rfl) ?_
          refine lv_iload_n hx hb dX12_feed_32 rfl (lv_at hl 0 rfl) ?_
          refine lv_lshr hx hb dX12_feed_33 rfl ?_
          refine lv_ldc2 (v := (255 : Int64)) hx hb hown (hts _ mwX12_feed_3) dX12_feed_34 ?_
          refine lv_land hx hb dX12_feed_37 ?_
          refine lv_l2i hx hb dX12_feed_38 rfl ?_
          have hc := ck_c hf
          replace hf := ck_r hf
          refine gs_iast (wf := fun w6 => [(a_p0, .inr (12, [.ref a_p0_st, .ref a_p0_isKept, .int i_p0_seats, .int i_p0_stirs, .ref a_p0_brings, .ref a_p0_need, .ref a_p0_draft, .int i_p0_dSeats, .int i_p0_dStirs, .ref a_p0_dStir, .ref a_p0_dNeed, .int i_p0_told, .int i_p0_highest, .ref a_p0_tape, .int z3, .int i_p0_pos, .int i_p0_from, .int i_p0_sort, .int i_p0_value, .int i_p0_fault, .int i_p0_wrongAt, .ref a_p0_places, .ref a_p0_stirred, .ref a_p0_ways, .ref a_p0_waysThen, .ref a_p0_stays, .ref a_p0_fewest, .ref a_p0_bowls, .ref a_p0_has, .ref a_p0_goesOn, .ref a_p0_isThere, .ref a_p0_isThereThen, .ref a_p0_bestRow, .ref a_p0_lanes, .ref a_p0_sizes, .ref a_p0_cells, .int i_p0_torn])), (a_p0_tape, .inl (G 1, 320, .inl w6))]) hx hb hK hP hD hS 1 1 rfl rfl (ixB_in hc) dX12_feed_39 (fun _ => rfl) (fun w6 ez H locs hP hD hS => ?_)
          replace hf := bnd_s hf ez
          clear ez hc
          refine lv_aload_n hx hb dX12_feed_40 rfl (lv_at hl 1 rfl) ?_
          refine lv_dup hx hb dX12_feed_41 rfl ?_
          refine va_get (D := D) (ci := 12) (v := .int z3) (C := RX12) (T := TX12) (N := 37) hx hb hts inX12_feed_X12 hown hK hP 0 rfl rfl 14 (by decide) (hts _ mwX12_feed_1) (fun _ h9 => h9) rfl dX12_feed_42 ?_
          refine lv_iconst (v := (1 : Int32)) hx hb dX12_feed_45 (by decide) ?_
          refine lv_iadd hx hb dX12_feed_46 ?_
          refine lv_topi (fun z7 ez => ?_)
          replace hf := bnd_s hf ez
          clear ez
          refine va_put (D := D) (ci := 12) (v := .int z7) (ty := .int) (C := RX12) (T := TX12) (N := 37) hx hb hts inX12_feed_X12 tyX12 tyX12_ok nmX12 hown hK hP hD hS 0 rfl rfl 14 (by decide) (hts _ mwX12_feed_1) (fun _ h9 => h9) rfl (by decide +kernel) rfl rfl (Nat.le_of_ble_eq_true rfl) dX12_feed_47 (fun H locs hP hD hS => ?_)
          have hP : va_P D vwCl [(a_p0, .inr (12, [.ref a_p0_st, .ref a_p0_isKept, .int i_p0_seats, .int i_p0_stirs, .ref a_p0_brings, .ref a_p0_need, .ref a_p0_draft, .int i_p0_dSeats, .int i_p0_dStirs, .ref a_p0_dStir, .ref a_p0_dNeed, .int i_p0_told, .int i_p0_highest, .ref a_p0_tape, .int z7, .int i_p0_pos, .int i_p0_from, .int i_p0_sort, .int i_p0_value, .int i_p0_fault, .int i_p0_wrongAt, .ref a_p0_places, .ref a_p0_stirred, .ref a_p0_ways, .ref a_p0_waysThen, .ref a_p0_stays, .ref a_p0_fewest, .ref a_p0_bowls, .ref a_p0_has, .ref a_p0_goesOn, .ref a_p0_isThere, .ref a_p0_isThereThen, .ref a_p0_bestRow, .ref a_p0_lanes, .ref a_p0_sizes, .ref a_p0_cells, .int i_p0_torn])), (a_p0_tape, .inl (G 1, 320, .inl w6))] H := hP
          have hD : va_D A [(a_p0, .inr (12, [.ref a_p0_st, .ref a_p0_isKept, .int i_p0_seats, .int i_p0_stirs, .ref a_p0_brings, .ref a_p0_need, .ref a_p0_draft, .int i_p0_dSeats, .int i_p0_dStirs, .ref a_p0_dStir, .ref a_p0_dNeed, .int i_p0_told, .int i_p0_highest, .ref a_p0_tape, .int z7, .int i_p0_pos, .int i_p0_from, .int i_p0_sort, .int i_p0_value, .int i_p0_fault, .int i_p0_wrongAt, .ref a_p0_places, .ref a_p0_stirred, .ref a_p0_ways, .ref a_p0_waysThen, .ref a_p0_stays, .ref a_p0_fewest, .ref a_p0_bowls, .ref a_p0_has, .ref a_p0_goesOn, .ref a_p0_isThere, .ref a_p0_isThereThen, .ref a_p0_bestRow, .ref a_p0_lanes, .ref a_p0_sizes, .ref a_p0_cells, .int i_p0_torn])), (a_p0_tape, .inl (G 1, 320, .inl w6))] := hD
          obtain ⟨z8, ez⟩ : ∃ y : Int32, y = (z2 + (-8 : Int32)) := ⟨_, rfl⟩
          replace hf := bnd_s hf ez
          refine lv_iinc (v := z8) (lv' := [(3, .int z8), (0, .ref a_p0), (1, .long x1)]) hx hb dX12_feed_50 hl (k := 0) rfl (by rw [ez]; rfl) (by decide) rfl (fun ls hl => ?_)
          clear ez
          refine lv_goto (tgt := 19) hx hb dX12_feed_53 (by decide) ?_
          exact ih19 _ _ _ _ _ _ (lv_sub hl [0, 1, 2] rfl) hP hD hS hf
    exact hB5 _ _ _ _ _ _ _ (lv_sub hl [0, 1, 2] rfl) hP hD hS hf
  ·
    replace hf := ite_f cc hf
    clear cc
    refine lv_bipush (v := (-3 : Int32)) hx hb dX12_feed_13 (by decide) ?_
    obtain ⟨rfl, rfl, rfl⟩ := ou3 hf
    rw [hQ]
    exact W.iret hx hb hr (fun t ht hW => ⟨⟨_, (), rfl, rfl, by rw [ht]; exact hP, va_K.moved hW.alike hK, hD⟩, hS.F ht⟩) hS.2.2 dX12_feed_15

noncomputable def f_X12_end (i_p0_taped : Int32) (x1 : Int32) : Option (Int32 × Int32) := (bd1 (f_X12_in (x1).toInt64 (0 : Int64) (i_p0_taped).toInt64) (fun (z1 : Int32) => (if z1 = 0 then (some ((-1 : Int32), i_p0_taped)) else (bnd i_p0_taped (fun (z2 : Int32) => (bnd x1 (fun (z3 : Int32) => (some (z2, z3)))))))))
abbrev rm_X12_end : Room := { frames := 1, cells := 0, slots := 0, locals := 25 }
theorem inX12_end_X12 : ∀ w ∈ wsX120, w ∈ wsX12_end := by decide +kernel
theorem mwX12_end_1 : Cond.fieldLink RX12 110 "LadleKingsModel" "taped" "I" ∈ wsX12_end := by decide +kernel
set_option maxHeartbeats 8000000 in
set_option maxRecDepth 100000 in
theorem c_X12_end (l : Launch) (D : va_G) (G : Nat → ClassId) (sz : Nat) (a_p0 : Nat) (a_p0_st : Nat) (a_p0_isKept : Nat) (a_p0_brings : Nat) (a_p0_need : Nat) (a_p0_draft : Nat) (a_p0_dStir : Nat) (a_p0_dNeed : Nat) (a_p0_tape : Nat) (a_p0_places : Nat) (a_p0_stirred : Nat) (a_p0_ways : Nat) (a_p0_waysThen : Nat) (a_p0_stays : Nat) (a_p0_fewest : Nat) (a_p0_bowls : Nat) (a_p0_has : Nat) (a_p0_goesOn : Nat) (a_p0_isThere : Nat) (a_p0_isThereThen : Nat) (a_p0_bestRow : Nat) (a_p0_lanes : Nat) (a_p0_sizes : Nat) (a_p0_cells : Nat) (i_p0_seats : Int32) (i_p0_stirs : Int32) (i_p0_dSeats : Int32) (i_p0_dStirs : Int32) (i_p0_told : Int32) (i_p0_highest : Int32) (i_p0_taped : Int32) (i_p0_pos : Int32) (i_p0_from : Int32) (i_p0_sort : Int32) (i_p0_value : Int32) (i_p0_fault : Int32) (i_p0_wrongAt : Int32) (i_p0_torn : Int32) (x1 : Int32) (r : Int32) (o_i_p0_taped : Int32) (hf : f_X12_end i_p0_taped x1 = some (r, o_i_p0_taped)) : Met l yX12_end wsX12_end rm_X12_end (pcG D G [.ref a_p0, .int x1] sz [(a_p0, .inr (12, [.ref a_p0_st, .ref a_p0_isKept, .int i_p0_seats, .int i_p0_stirs, .ref a_p0_brings, .ref a_p0_need, .ref a_p0_draft, .int i_p0_dSeats, .int i_p0_dStirs, .ref a_p0_dStir, .ref a_p0_dNeed, .int i_p0_told, .int i_p0_highest, .ref a_p0_tape, .int i_p0_taped, .int i_p0_pos, .int i_p0_from, .int i_p0_sort, .int i_p0_value, .int i_p0_fault, .int i_p0_wrongAt, .ref a_p0_places, .ref a_p0_stirred, .ref a_p0_ways, .ref a_p0_waysThen, .ref a_p0_stays, .ref a_p0_fewest, .ref a_p0_bowls, .ref a_p0_has, .ref a_p0_goesOn, .ref a_p0_isThere, .ref a_p0_isThereThen, .ref a_p0_bestRow, .ref a_p0_lanes, .ref a_p0_sizes, .ref a_p0_cells, .int i_p0_torn]))]) (qcI D G r [(a_p0, .inr (12, [.ref a_p0_st, .ref a_p0_isKept, .int i_p0_seats, .int i_p0_stirs, .ref a_p0_brings, .ref a_p0_need, .ref a_p0_draft, .int i_p0_dSeats, .int i_p0_dStirs, .ref a_p0_dStir, .ref a_p0_dNeed, .int i_p0_told, .int i_p0_highest, .ref a_p0_tape, .int o_i_p0_taped, .int i_p0_pos, .int i_p0_from, .int i_p0_sort, .int i_p0_value, .int i_p0_fault, .int i_p0_wrongAt, .ref a_p0_places, .ref a_p0_stirred, .ref a_p0_ways, .ref a_p0_waysThen, .ref a_p0_stays, .ref a_p0_fewest, .ref a_p0_bowls, .ref a_p0_has, .ref a_p0_goesOn, .ref a_p0_isThere, .ref a_p0_isThereThen, .ref a_p0_bestRow, .ref a_p0_lanes, .ref a_p0_sizes, .ref a_p0_cells, .int i_p0_torn]))] (va_A [(a_p0, .inr (12, [.ref a_p0_st, .ref a_p0_isKept, .int i_p0_seats, .int i_p0_stirs, .ref a_p0_brings, .ref a_p0_need, .ref a_p0_draft, .int i_p0_dSeats, .int i_p0_dStirs, .ref a_p0_dStir, .ref a_p0_dNeed, .int i_p0_told, .int i_p0_highest, .ref a_p0_tape, .int i_p0_taped, .int i_p0_pos, .int i_p0_from, .int i_p0_sort, .int i_p0_value, .int i_p0_fault, .int i_p0_wrongAt, .ref a_p0_places, .ref a_p0_stirred, .ref a_p0_ways, .ref a_p0_waysThen, .ref a_p0_stays, .ref a_p0_fewest, .ref a_p0_bowls, .ref a_p0_has, .ref a_p0_goesOn, .ref a_p0_isThere, .ref a_p0_isThereThen, .ref a_p0_bestRow, .ref a_p0_lanes, .ref a_p0_sizes, .ref a_p0_cells, .int i_p0_torn]))] sz)) 0 0 (va_A [(a_p0, .inr (12, [.ref a_p0_st, .ref a_p0_isKept, .int i_p0_seats, .int i_p0_stirs, .ref a_p0_brings, .ref a_p0_need, .ref a_p0_draft, .int i_p0_dSeats, .int i_p0_dStirs, .ref a_p0_dStir, .ref a_p0_dNeed, .int i_p0_told, .int i_p0_highest, .ref a_p0_tape, .int i_p0_taped, .int i_p0_pos, .int i_p0_from, .int i_p0_sort, .int i_p0_value, .int i_p0_fault, .int i_p0_wrongAt, .ref a_p0_places, .ref a_p0_stirred, .ref a_p0_ways, .ref a_p0_waysThen, .ref a_p0_stays, .ref a_p0_fewest, .ref a_p0_bowls, .ref a_p0_has, .ref a_p0_goesOn, .ref a_p0_isThere, .ref a_p0_isThereThen, .ref a_p0_bestRow, .ref a_p0_lanes, .ref a_p0_sizes, .ref a_p0_cells, .int i_p0_torn]))] sz) := by
  refine Met.ofW (cc := cX12_end) (maxL := 3) (ret := (some .int)) (by decide) rfl ?_
  intro p e s m args below meth c s₁ B hml hv
  obtain ⟨rfl, hsz, hP, hK, hD0⟩ := hv
  have hx := B.exec
  have hb := B.bytes
  have hr := B.returns
  have hts := atoms_spec (ws := wsX12_end) B.pre
  have hown : s.vm.findClass RX12 = some m.cls := findClass_of_methodNamed B.named
  have hlocks := B.notSynchronized
  subst hsz
  have hD := hD0.self (sz := s.heap.size)
  generalize hAe : va_A [(a_p0, .inr (12, [.ref a_p0_st, .ref a_p0_isKept, .int i_p0_seats, .int i_p0_stirs, .ref a_p0_brings, .ref a_p0_need, .ref a_p0_draft, .int i_p0_dSeats, .int i_p0_dStirs, .ref a_p0_dStir, .ref a_p0_dNeed, .int i_p0_told, .int i_p0_highest, .ref a_p0_tape, .int i_p0_taped, .int i_p0_pos, .int i_p0_from, .int i_p0_sort, .int i_p0_value, .int i_p0_fault, .int i_p0_wrongAt, .ref a_p0_places, .ref a_p0_stirred, .ref a_p0_ways, .ref a_p0_waysThen, .ref a_p0_stays, .ref a_p0_fewest, .ref a_p0_bowls, .ref a_p0_has, .ref a_p0_goesOn, .ref a_p0_isThere, .ref a_p0_isThereThen, .ref a_p0_bestRow, .ref a_p0_lanes, .ref a_p0_sizes, .ref a_p0_cells, .int i_p0_torn]))] s.heap.size = A at hD ⊢
  have hA : ∀ q : Nat, s.heap.size ≤ q → A q := fun q h => by rw [← hAe]; exact Or.inr h
  clear hAe hD0
  have hS : va_S A s.heap s.heap [] := va_S.rf
  have hl := lv_entry ([.ref a_p0, .int x1]) (n := 3) (Nat.le_of_ble_eq_true rfl)
  rw [lg_entry_eq]
  generalize (lg_sl ([.ref a_p0, .int x1]) ++ List.replicate (3 - (lg_sl ([.ref a_p0, .int x1])).length) Slot.unset).toArray = ls at hl ⊢
  have hl : lv_has ls 3 [(0, .ref a_p0), (1, .int x1)] := hl
  refine W_nameQ (fun Q hQ => ?_)
  obtain ⟨H, hH⟩ : ∃ H, H = s.heap := ⟨_, rfl⟩
  replace hS : va_S A s.heap H [] := by rw [hH]; exact hS
  replace hP : va_P D vwCl [(a_p0, .inr (12, [.ref a_p0_st, .ref a_p0_isKept, .int i_p0_seats, .int i_p0_stirs, .ref a_p0_brings, .ref a_p0_need, .ref a_p0_draft, .int i_p0_dSeats, .int i_p0_dStirs, .ref a_p0_dStir, .ref a_p0_dNeed, .int i_p0_told, .int i_p0_highest, .ref a_p0_tape, .int i_p0_taped, .int i_p0_pos, .int i_p0_from, .int i_p0_sort, .int i_p0_value, .int i_p0_fault, .int i_p0_wrongAt, .ref a_p0_places, .ref a_p0_stirred, .ref a_p0_ways, .ref a_p0_waysThen, .ref a_p0_stays, .ref a_p0_fewest, .ref a_p0_bowls, .ref a_p0_has, .ref a_p0_goesOn, .ref a_p0_isThere, .ref a_p0_isThereThen, .ref a_p0_bestRow, .ref a_p0_lanes, .ref a_p0_sizes, .ref a_p0_cells, .int i_p0_torn]))] H := by rw [hH]; exact hP
  rw [← hH]
  clear hH
  unfold f_X12_end at hf
  refine lv_iload_n hx hb dX12_end_0 rfl (lv_at hl 1 rfl) ?_
  refine lv_i2l hx hb dX12_end_1 rfl ?_
  refine lv_lconst (v := (0 : Int64)) hx hb dX12_end_2 (by decide) ?_
  refine lv_aload_n hx hb dX12_end_3 rfl (lv_at hl 0 rfl) ?_
  refine va_get (D := D) (ci := 12) (v := .int i_p0_taped) (C := RX12) (T := TX12) (N := 37) hx hb hts inX12_end_X12 hown hK hP 0 rfl rfl 14 (by decide) (hts _ mwX12_end_1) (fun _ h9 => h9) rfl dX12_end_4 ?_
  refine lv_i2l hx hb dX12_end_7 rfl ?_
  have hq := bd1_s hf
  clear hf
  obtain ⟨z1, hcall, hf⟩ := hq
  refine gcI (ws' := [(a_p0, .inr (12, [.ref a_p0_st, .ref a_p0_isKept, .int i_p0_seats, .int i_p0_stirs, .ref a_p0_brings, .ref a_p0_need, .ref a_p0_draft, .int i_p0_dSeats, .int i_p0_dStirs, .ref a_p0_dStir, .ref a_p0_dNeed, .int i_p0_told, .int i_p0_highest, .ref a_p0_tape, .int i_p0_taped, .int i_p0_pos, .int i_p0_from, .int i_p0_sort, .int i_p0_value, .int i_p0_fault, .int i_p0_wrongAt, .ref a_p0_places, .ref a_p0_stirred, .ref a_p0_ways, .ref a_p0_waysThen, .ref a_p0_stays, .ref a_p0_fewest, .ref a_p0_bowls, .ref a_p0_has, .ref a_p0_goesOn, .ref a_p0_isThere, .ref a_p0_isThereThen, .ref a_p0_bestRow, .ref a_p0_lanes, .ref a_p0_sizes, .ref a_p0_cells, .int i_p0_torn]))]) (va_runS (As := [.long (x1).toInt64, .long (0 : Int64), .long (i_p0_taped).toInt64]) (rest := []) ⟨hx, hb, hml, hown, hts⟩ (c_X12_in (l := l) (D := D) (G := G) (sz := H.size) (x0 := (x1).toInt64) (x2 := (0 : Int64)) (x4 := (i_p0_taped).toInt64) (r := z1) (hf := hcall)) (va_cwS 3 hts gX12_end_X12_in rfl rfl rfl (by decide +kernel) ⟨Nat.le_of_ble_eq_true rfl, Nat.le_of_ble_eq_true rfl⟩) (preG_S (hP.sub [] rfl) (hD.sub [] rfl rfl) hK) rfl rfl hl.1 rfl (lv_room (Nat.le_of_ble_eq_true rfl)) dX12_end_8 ⟨Nat.le_of_ble_eq_true rfl, Nat.le_of_ble_eq_true rfl⟩) hP hD hS hA [] [0] [0] rfl rfl rfl (by decide) rfl rfl rfl (fun H locs hP hD hS => ?_)
  clear hcall
  refine lv_if_ne (tgt := 16) hx hb dX12_end_11 (by decide) (fun cc => ?_) (fun cc => ?_)
  ·
    replace hf := ite_f cc hf
    clear cc
    refine lv_aload_n hx hb dX12_end_16 rfl (lv_at hl 0 rfl) ?_
    refine va_get (D := D) (ci := 12) (v := .int i_p0_taped) (C := RX12) (T := TX12) (N := 37) hx hb hts inX12_end_X12 hown hK hP 0 rfl rfl 14 (by decide) (hts _ mwX12_end_1) (fun _ h9 => h9) rfl dX12_end_17 ?_
    refine lv_topi (fun z2 ez => ?_)
    replace hf := bnd_s hf ez
    clear ez
    refine lv_istore_n (lv' := [(2, .int z2), (0, .ref a_p0), (1, .int x1)]) hx hb dX12_end_20 rfl hl (by decide) rfl (fun ls hl => ?_)
    refine lv_aload_n hx hb dX12_end_21 rfl (lv_at hl 1 rfl) ?_
    refine lv_iload_n hx hb dX12_end_22 rfl (lv_at hl 2 rfl) ?_
    refine lv_topi (fun z3 ez => ?_)
    replace hf := bnd_s hf ez
    clear ez
    refine va_put (D := D) (ci := 12) (v := .int z3) (ty := .int) (C := RX12) (T := TX12) (N := 37) hx hb hts inX12_end_X12 tyX12 tyX12_ok nmX12 hown hK hP hD hS 0 rfl rfl 14 (by decide) (hts _ mwX12_end_1) (fun _ h9 => h9) rfl (by decide +kernel) rfl rfl (Nat.le_of_ble_eq_true rfl) dX12_end_23 (fun H locs hP hD hS => ?_)
    have hP : va_P D vwCl [(a_p0, .inr (12, [.ref a_p0_st, .ref a_p0_isKept, .int i_p0_seats, .int i_p0_stirs, .ref a_p0_brings, .ref a_p0_need, .ref a_p0_draft, .int i_p0_dSeats, .int i_p0_dStirs, .ref a_p0_dStir, .ref a_p0_dNeed, .int i_p0_told, .int i_p0_highest, .ref a_p0_tape, .int z3, .int i_p0_pos, .int i_p0_from, .int i_p0_sort, .int i_p0_value, .int i_p0_fault, .int i_p0_wrongAt, .ref a_p0_places, .ref a_p0_stirred, .ref a_p0_ways, .ref a_p0_waysThen, .ref a_p0_stays, .ref a_p0_fewest, .ref a_p0_bowls, .ref a_p0_has, .ref a_p0_goesOn, .ref a_p0_isThere, .ref a_p0_isThereThen, .ref a_p0_bestRow, .ref a_p0_lanes, .ref a_p0_sizes, .ref a_p0_cells, .int i_p0_torn]))] H := hP
    have hD : va_D A [(a_p0, .inr (12, [.ref a_p0_st, .ref a_p0_isKept, .int i_p0_seats, .int i_p0_stirs, .ref a_p0_brings, .ref a_p0_need, .ref a_p0_draft, .int i_p0_dSeats, .int i_p0_dStirs, .ref a_p0_dStir, .ref a_p0_dNeed, .int i_p0_told, .int i_p0_highest, .ref a_p0_tape, .int z3, .int i_p0_pos, .int i_p0_from, .int i_p0_sort, .int i_p0_value, .int i_p0_fault, .int i_p0_wrongAt, .ref a_p0_places, .ref a_p0_stirred, .ref a_p0_ways, .ref a_p0_waysThen, .ref a_p0_stays, .ref a_p0_fewest, .ref a_p0_bowls, .ref a_p0_has, .ref a_p0_goesOn, .ref a_p0_isThere, .ref a_p0_isThereThen, .ref a_p0_bestRow, .ref a_p0_lanes, .ref a_p0_sizes, .ref a_p0_cells, .int i_p0_torn]))] := hD
    refine lv_iload_n hx hb dX12_end_26 rfl (lv_at hl 0 rfl) ?_
    obtain ⟨rfl, rfl⟩ := ou2 hf
    rw [hQ]
    exact W.iret hx hb hr (fun t ht hW => ⟨⟨_, (), rfl, rfl, by rw [ht]; exact hP, va_K.moved hW.alike hK, hD⟩, hS.F ht⟩) hS.2.2 dX12_end_27
  ·
    replace hf := ite_t cc hf
    clear cc
    refine lv_iconst (v := (-1 : Int32)) hx hb dX12_end_14 (by decide) ?_
    obtain ⟨rfl, rfl⟩ := ou2 hf
    rw [hQ]
    exact W.iret hx hb hr (fun t ht hW => ⟨⟨_, (), rfl, rfl, by rw [ht]; exact hP, va_K.moved hW.alike hK, hD⟩, hS.F ht⟩) hS.2.2 dX12_end_15

noncomputable def f_X12_needs (i_p0_from : Int32) (i_p0_fault : Int32) (i_p0_wrongAt : Int32) (x1 : Int32) (x2 : Int32) : Option (Int32 × Int32) := (if x1 = 0 then (if i_p0_fault = 0 then (bnd x2 (fun (z1 : Int32) => (bnd i_p0_from (fun (z2 : Int32) => (some (z1, z2)))))) else (some (i_p0_fault, i_p0_wrongAt))) else (some (i_p0_fault, i_p0_wrongAt)))
abbrev rm_X12_needs : Room := { frames := 0, cells := 0, slots := 0, locals := 0 }
theorem inX12_needs_X12 : ∀ w ∈ wsX120, w ∈ wsX12_needs := by decide +kernel
theorem mwX12_needs_1 : Cond.fieldLink RX12 119 "LadleKingsModel" "fault" "I" ∈ wsX12_needs := by decide +kernel
theorem mwX12_needs_2 : Cond.fieldLink RX12 122 "LadleKingsModel" "from" "I" ∈ wsX12_needs := by decide +kernel
theorem mwX12_needs_3 : Cond.fieldLink RX12 125 "LadleKingsModel" "wrongAt" "I" ∈ wsX12_needs := by decide +kernel
set_option maxHeartbeats 8000000 in
set_option maxRecDepth 100000 in
theorem c_X12_needs (l : Launch) (D : va_G) (G : Nat → ClassId) (sz : Nat) (a_p0 : Nat) (a_p0_st : Nat) (a_p0_isKept : Nat) (a_p0_brings : Nat) (a_p0_need : Nat) (a_p0_draft : Nat) (a_p0_dStir : Nat) (a_p0_dNeed : Nat) (a_p0_tape : Nat) (a_p0_places : Nat) (a_p0_stirred : Nat) (a_p0_ways : Nat) (a_p0_waysThen : Nat) (a_p0_stays : Nat) (a_p0_fewest : Nat) (a_p0_bowls : Nat) (a_p0_has : Nat) (a_p0_goesOn : Nat) (a_p0_isThere : Nat) (a_p0_isThereThen : Nat) (a_p0_bestRow : Nat) (a_p0_lanes : Nat) (a_p0_sizes : Nat) (a_p0_cells : Nat) (i_p0_seats : Int32) (i_p0_stirs : Int32) (i_p0_dSeats : Int32) (i_p0_dStirs : Int32) (i_p0_told : Int32) (i_p0_highest : Int32) (i_p0_taped : Int32) (i_p0_pos : Int32) (i_p0_from : Int32) (i_p0_sort : Int32) (i_p0_value : Int32) (i_p0_fault : Int32) (i_p0_wrongAt : Int32) (i_p0_torn : Int32) (x1 : Int32) (x2 : Int32) (o_i_p0_fault : Int32) (o_i_p0_wrongAt : Int32) (hf : f_X12_needs i_p0_from i_p0_fault i_p0_wrongAt x1 x2 = some (o_i_p0_fault, o_i_p0_wrongAt)) : Met l yX12_needs wsX12_needs rm_X12_needs (pcG D G [.ref a_p0, .int x1, .int x2] sz [(a_p0, .inr (12, [.ref a_p0_st, .ref a_p0_isKept, .int i_p0_seats, .int i_p0_stirs, .ref a_p0_brings, .ref a_p0_need, .ref a_p0_draft, .int i_p0_dSeats, .int i_p0_dStirs, .ref a_p0_dStir, .ref a_p0_dNeed, .int i_p0_told, .int i_p0_highest, .ref a_p0_tape, .int i_p0_taped, .int i_p0_pos, .int i_p0_from, .int i_p0_sort, .int i_p0_value, .int i_p0_fault, .int i_p0_wrongAt, .ref a_p0_places, .ref a_p0_stirred, .ref a_p0_ways, .ref a_p0_waysThen, .ref a_p0_stays, .ref a_p0_fewest, .ref a_p0_bowls, .ref a_p0_has, .ref a_p0_goesOn, .ref a_p0_isThere, .ref a_p0_isThereThen, .ref a_p0_bestRow, .ref a_p0_lanes, .ref a_p0_sizes, .ref a_p0_cells, .int i_p0_torn]))]) (qcV D G [(a_p0, .inr (12, [.ref a_p0_st, .ref a_p0_isKept, .int i_p0_seats, .int i_p0_stirs, .ref a_p0_brings, .ref a_p0_need, .ref a_p0_draft, .int i_p0_dSeats, .int i_p0_dStirs, .ref a_p0_dStir, .ref a_p0_dNeed, .int i_p0_told, .int i_p0_highest, .ref a_p0_tape, .int i_p0_taped, .int i_p0_pos, .int i_p0_from, .int i_p0_sort, .int i_p0_value, .int o_i_p0_fault, .int o_i_p0_wrongAt, .ref a_p0_places, .ref a_p0_stirred, .ref a_p0_ways, .ref a_p0_waysThen, .ref a_p0_stays, .ref a_p0_fewest, .ref a_p0_bowls, .ref a_p0_has, .ref a_p0_goesOn, .ref a_p0_isThere, .ref a_p0_isThereThen, .ref a_p0_bestRow, .ref a_p0_lanes, .ref a_p0_sizes, .ref a_p0_cells, .int i_p0_torn]))] (va_A [(a_p0, .inr (12, [.ref a_p0_st, .ref a_p0_isKept, .int i_p0_seats, .int i_p0_stirs, .ref a_p0_brings, .ref a_p0_need, .ref a_p0_draft, .int i_p0_dSeats, .int i_p0_dStirs, .ref a_p0_dStir, .ref a_p0_dNeed, .int i_p0_told, .int i_p0_highest, .ref a_p0_tape, .int i_p0_taped, .int i_p0_pos, .int i_p0_from, .int i_p0_sort, .int i_p0_value, .int i_p0_fault, .int i_p0_wrongAt, .ref a_p0_places, .ref a_p0_stirred, .ref a_p0_ways, .ref a_p0_waysThen, .ref a_p0_stays, .ref a_p0_fewest, .ref a_p0_bowls, .ref a_p0_has, .ref a_p0_goesOn, .ref a_p0_isThere, .ref a_p0_isThereThen, .ref a_p0_bestRow, .ref a_p0_lanes, .ref a_p0_sizes, .ref a_p0_cells, .int i_p0_torn]))] sz)) 0 0 (va_A [(a_p0, .inr (12, [.ref a_p0_st, .ref a_p0_isKept, .int i_p0_seats, .int i_p0_stirs, .ref a_p0_brings, .ref a_p0_need, .ref a_p0_draft, .int i_p0_dSeats, .int i_p0_dStirs, .ref a_p0_dStir, .ref a_p0_dNeed, .int i_p0_told, .int i_p0_highest, .ref a_p0_tape, .int i_p0_taped, .int i_p0_pos, .int i_p0_from, .int i_p0_sort, .int i_p0_value, .int i_p0_fault, .int i_p0_wrongAt, .ref a_p0_places, .ref a_p0_stirred, .ref a_p0_ways, .ref a_p0_waysThen, .ref a_p0_stays, .ref a_p0_fewest, .ref a_p0_bowls, .ref a_p0_has, .ref a_p0_goesOn, .ref a_p0_isThere, .ref a_p0_isThereThen, .ref a_p0_bestRow, .ref a_p0_lanes, .ref a_p0_sizes, .ref a_p0_cells, .int i_p0_torn]))] sz) := by
  refine Met.ofW (cc := cX12_needs) (maxL := 3) (ret := none) (by decide) rfl ?_
  intro p e s m args below meth c s₁ B hml hv
  obtain ⟨rfl, hsz, hP, hK, hD0⟩ := hv
  have hx := B.exec
  have hb := B.bytes
  have hr := B.returns
  have hts := atoms_spec (ws := wsX12_needs) B.pre
  have hown : s.vm.findClass RX12 = some m.cls := findClass_of_methodNamed B.named
  have hlocks := B.notSynchronized
  subst hsz
  have hD := hD0.self (sz := s.heap.size)
  generalize hAe : va_A [(a_p0, .inr (12, [.ref a_p0_st, .ref a_p0_isKept, .int i_p0_seats, .int i_p0_stirs, .ref a_p0_brings, .ref a_p0_need, .ref a_p0_draft, .int i_p0_dSeats, .int i_p0_dStirs, .ref a_p0_dStir, .ref a_p0_dNeed, .int i_p0_told, .int i_p0_highest, .ref a_p0_tape, .int i_p0_taped, .int i_p0_pos, .int i_p0_from, .int i_p0_sort, .int i_p0_value, .int i_p0_fault, .int i_p0_wrongAt, .ref a_p0_places, .ref a_p0_stirred, .ref a_p0_ways, .ref a_p0_waysThen, .ref a_p0_stays, .ref a_p0_fewest, .ref a_p0_bowls, .ref a_p0_has, .ref a_p0_goesOn, .ref a_p0_isThere, .ref a_p0_isThereThen, .ref a_p0_bestRow, .ref a_p0_lanes, .ref a_p0_sizes, .ref a_p0_cells, .int i_p0_torn]))] s.heap.size = A at hD ⊢
  have hA : ∀ q : Nat, s.heap.size ≤ q → A q := fun q h => by rw [← hAe]; exact Or.inr h
  clear hAe hD0
  have hS : va_S A s.heap s.heap [] := va_S.rf
  have hl := lv_entry ([.ref a_p0, .int x1, .int x2]) (n := 3) (Nat.le_of_ble_eq_true rfl)
  rw [lg_entry_eq]
  generalize (lg_sl ([.ref a_p0, .int x1, .int x2]) ++ List.replicate (3 - (lg_sl ([.ref a_p0, .int x1, .int x2])).length) Slot.unset).toArray = ls at hl ⊢
  have hl : lv_has ls 3 [(0, .ref a_p0), (1, .int x1), (2, .int x2)] := hl
  refine W_nameQ (fun Q hQ => ?_)
  obtain ⟨H, hH⟩ : ∃ H, H = s.heap := ⟨_, rfl⟩
  replace hS : va_S A s.heap H [] := by rw [hH]; exact hS
  replace hP : va_P D vwCl [(a_p0, .inr (12, [.ref a_p0_st, .ref a_p0_isKept, .int i_p0_seats, .int i_p0_stirs, .ref a_p0_brings, .ref a_p0_need, .ref a_p0_draft, .int i_p0_dSeats, .int i_p0_dStirs, .ref a_p0_dStir, .ref a_p0_dNeed, .int i_p0_told, .int i_p0_highest, .ref a_p0_tape, .int i_p0_taped, .int i_p0_pos, .int i_p0_from, .int i_p0_sort, .int i_p0_value, .int i_p0_fault, .int i_p0_wrongAt, .ref a_p0_places, .ref a_p0_stirred, .ref a_p0_ways, .ref a_p0_waysThen, .ref a_p0_stays, .ref a_p0_fewest, .ref a_p0_bowls, .ref a_p0_has, .ref a_p0_goesOn, .ref a_p0_isThere, .ref a_p0_isThereThen, .ref a_p0_bestRow, .ref a_p0_lanes, .ref a_p0_sizes, .ref a_p0_cells, .int i_p0_torn]))] H := by rw [hH]; exact hP
  rw [← hH]
  clear hH
  unfold f_X12_needs at hf
  refine lv_iload_n hx hb dX12_needs_0 rfl (lv_at hl 1 rfl) ?_
  refine lv_if_ne (tgt := 24) hx hb dX12_needs_1 (by decide) (fun cc => ?_) (fun cc => ?_)
  ·
    replace hf := ite_f cc hf
    clear cc
    obtain ⟨rfl, rfl⟩ := ou2 hf
    rw [hQ]
    exact W.vret hx hb hr (fun t ht hW => ⟨⟨(), rfl, trivial, by rw [ht]; exact hP, va_K.moved hW.alike hK, hD⟩, hS.F ht⟩) hS.2.2 dX12_needs_24
  ·
    replace hf := ite_t cc hf
    clear cc
    refine lv_aload_n hx hb dX12_needs_4 rfl (lv_at hl 0 rfl) ?_
    refine va_get (D := D) (ci := 12) (v := .int i_p0_fault) (C := RX12) (T := TX12) (N := 37) hx hb hts inX12_needs_X12 hown hK hP 0 rfl rfl 19 (by decide) (hts _ mwX12_needs_1) (fun _ h9 => h9) rfl dX12_needs_5 ?_
    refine lv_if_ne (tgt := 24) hx hb dX12_needs_8 (by decide) (fun cc => ?_) (fun cc => ?_)
    ·
      replace hf := ite_f cc hf
      clear cc
      obtain ⟨rfl, rfl⟩ := ou2 hf
      rw [hQ]
      exact W.vret hx hb hr (fun t ht hW => ⟨⟨(), rfl, trivial, by rw [ht]; exact hP, va_K.moved hW.alike hK, hD⟩, hS.F ht⟩) hS.2.2 dX12_needs_24
    ·
      replace hf := ite_t cc hf
      clear cc
      refine lv_aload_n hx hb dX12_needs_11 rfl (lv_at hl 0 rfl) ?_
      refine lv_iload_n hx hb dX12_needs_12 rfl (lv_at hl 2 rfl) ?_
      refine lv_topi (fun z1 ez => ?_)
      replace hf := bnd_s hf ez
      clear ez
      refine va_put (D := D) (ci := 12) (v := .int z1) (ty := .int) (C := RX12) (T := TX12) (N := 37) hx hb hts inX12_needs_X12 tyX12 tyX12_ok nmX12 hown hK hP hD hS 0 rfl rfl 19 (by decide) (hts _ mwX12_needs_1) (fun _ h9 => h9) rfl (by decide +kernel) rfl rfl (Nat.le_of_ble_eq_true rfl) dX12_needs_13 (fun H locs hP hD hS => ?_)
      have hP : va_P D vwCl [(a_p0, .inr (12, [.ref a_p0_st, .ref a_p0_isKept, .int i_p0_seats, .int i_p0_stirs, .ref a_p0_brings, .ref a_p0_need, .ref a_p0_draft, .int i_p0_dSeats, .int i_p0_dStirs, .ref a_p0_dStir, .ref a_p0_dNeed, .int i_p0_told, .int i_p0_highest, .ref a_p0_tape, .int i_p0_taped, .int i_p0_pos, .int i_p0_from, .int i_p0_sort, .int i_p0_value, .int z1, .int i_p0_wrongAt, .ref a_p0_places, .ref a_p0_stirred, .ref a_p0_ways, .ref a_p0_waysThen, .ref a_p0_stays, .ref a_p0_fewest, .ref a_p0_bowls, .ref a_p0_has, .ref a_p0_goesOn, .ref a_p0_isThere, .ref a_p0_isThereThen, .ref a_p0_bestRow, .ref a_p0_lanes, .ref a_p0_sizes, .ref a_p0_cells, .int i_p0_torn]))] H := hP
      have hD : va_D A [(a_p0, .inr (12, [.ref a_p0_st, .ref a_p0_isKept, .int i_p0_seats, .int i_p0_stirs, .ref a_p0_brings, .ref a_p0_need, .ref a_p0_draft, .int i_p0_dSeats, .int i_p0_dStirs, .ref a_p0_dStir, .ref a_p0_dNeed, .int i_p0_told, .int i_p0_highest, .ref a_p0_tape, .int i_p0_taped, .int i_p0_pos, .int i_p0_from, .int i_p0_sort, .int i_p0_value, .int z1, .int i_p0_wrongAt, .ref a_p0_places, .ref a_p0_stirred, .ref a_p0_ways, .ref a_p0_waysThen, .ref a_p0_stays, .ref a_p0_fewest, .ref a_p0_bowls, .ref a_p0_has, .ref a_p0_goesOn, .ref a_p0_isThere, .ref a_p0_isThereThen, .ref a_p0_bestRow, .ref a_p0_lanes, .ref a_p0_sizes, .ref a_p0_cells, .int i_p0_torn]))] := hD
      refine lv_aload_n hx hb dX12_needs_16 rfl (lv_at hl 0 rfl) ?_
      refine lv_aload_n hx hb dX12_needs_17 rfl (lv_at hl 0 rfl) ?_
      refine va_get (D := D) (ci := 12) (v := .int i_p0_from) (C := RX12) (T := TX12) (N := 37) hx hb hts inX12_needs_X12 hown hK hP 0 rfl rfl 16 (by decide) (hts _ mwX12_needs_2) (fun _ h9 => h9) rfl dX12_needs_18 ?_
      refine lv_topi (fun z2 ez => ?_)
      replace hf := bnd_s hf ez
      clear ez
      refine va_put (D := D) (ci := 12) (v := .int z2) (ty := .int) (C := RX12) (T := TX12) (N := 37) hx hb hts inX12_needs_X12 tyX12 tyX12_ok nmX12 hown hK hP hD hS 0 rfl rfl 20 (by decide) (hts _ mwX12_needs_3) (fun _ h9 => h9) rfl (by decide +kernel) rfl rfl (Nat.le_of_ble_eq_true rfl) dX12_needs_21 (fun H locs hP hD hS => ?_)
      have hP : va_P D vwCl [(a_p0, .inr (12, [.ref a_p0_st, .ref a_p0_isKept, .int i_p0_seats, .int i_p0_stirs, .ref a_p0_brings, .ref a_p0_need, .ref a_p0_draft, .int i_p0_dSeats, .int i_p0_dStirs, .ref a_p0_dStir, .ref a_p0_dNeed, .int i_p0_told, .int i_p0_highest, .ref a_p0_tape, .int i_p0_taped, .int i_p0_pos, .int i_p0_from, .int i_p0_sort, .int i_p0_value, .int z1, .int z2, .ref a_p0_places, .ref a_p0_stirred, .ref a_p0_ways, .ref a_p0_waysThen, .ref a_p0_stays, .ref a_p0_fewest, .ref a_p0_bowls, .ref a_p0_has, .ref a_p0_goesOn, .ref a_p0_isThere, .ref a_p0_isThereThen, .ref a_p0_bestRow, .ref a_p0_lanes, .ref a_p0_sizes, .ref a_p0_cells, .int i_p0_torn]))] H := hP
      have hD : va_D A [(a_p0, .inr (12, [.ref a_p0_st, .ref a_p0_isKept, .int i_p0_seats, .int i_p0_stirs, .ref a_p0_brings, .ref a_p0_need, .ref a_p0_draft, .int i_p0_dSeats, .int i_p0_dStirs, .ref a_p0_dStir, .ref a_p0_dNeed, .int i_p0_told, .int i_p0_highest, .ref a_p0_tape, .int i_p0_taped, .int i_p0_pos, .int i_p0_from, .int i_p0_sort, .int i_p0_value, .int z1, .int z2, .ref a_p0_places, .ref a_p0_stirred, .ref a_p0_ways, .ref a_p0_waysThen, .ref a_p0_stays, .ref a_p0_fewest, .ref a_p0_bowls, .ref a_p0_has, .ref a_p0_goesOn, .ref a_p0_isThere, .ref a_p0_isThereThen, .ref a_p0_bestRow, .ref a_p0_lanes, .ref a_p0_sizes, .ref a_p0_cells, .int i_p0_torn]))] := hD
      obtain ⟨rfl, rfl⟩ := ou2 hf
      rw [hQ]
      exact W.vret hx hb hr (fun t ht hW => ⟨⟨(), rfl, trivial, by rw [ht]; exact hP, va_K.moved hW.alike hK, hD⟩, hS.F ht⟩) hS.2.2 dX12_needs_24

noncomputable def f_X12_look (i_p0_taped : Int32) (v_p0_tape : (Nat → Int32)) (x1 : Int32) : Option (Int32) := (if i_p0_taped ≤ x1 then (some (-1 : Int32)) else (ck (ixB x1 320) (some (v_p0_tape (x1).toNatClampNeg))))
abbrev rm_X12_look : Room := { frames := 0, cells := 0, slots := 0, locals := 0 }
theorem inX12_look_X12 : ∀ w ∈ wsX120, w ∈ wsX12_look := by decide +kernel
theorem mwX12_look_1 : Cond.fieldLink RX12 110 "LadleKingsModel" "taped" "I" ∈ wsX12_look := by decide +kernel
theorem mwX12_look_2 : Cond.fieldLink RX12 32 "LadleKingsModel" "tape" "[I" ∈ wsX12_look := by decide +kernel
set_option maxHeartbeats 8000000 in
set_option maxRecDepth 100000 in
theorem c_X12_look (l : Launch) (D : va_G) (G : Nat → ClassId) (sz : Nat) (a_p0 : Nat) (a_p0_st : Nat) (a_p0_isKept : Nat) (a_p0_brings : Nat) (a_p0_need : Nat) (a_p0_draft : Nat) (a_p0_dStir : Nat) (a_p0_dNeed : Nat) (a_p0_tape : Nat) (a_p0_places : Nat) (a_p0_stirred : Nat) (a_p0_ways : Nat) (a_p0_waysThen : Nat) (a_p0_stays : Nat) (a_p0_fewest : Nat) (a_p0_bowls : Nat) (a_p0_has : Nat) (a_p0_goesOn : Nat) (a_p0_isThere : Nat) (a_p0_isThereThen : Nat) (a_p0_bestRow : Nat) (a_p0_lanes : Nat) (a_p0_sizes : Nat) (a_p0_cells : Nat) (i_p0_seats : Int32) (i_p0_stirs : Int32) (i_p0_dSeats : Int32) (i_p0_dStirs : Int32) (i_p0_told : Int32) (i_p0_highest : Int32) (i_p0_taped : Int32) (i_p0_pos : Int32) (i_p0_from : Int32) (i_p0_sort : Int32) (i_p0_value : Int32) (i_p0_fault : Int32) (i_p0_wrongAt : Int32) (i_p0_torn : Int32) (v_p0_tape : (Nat → Int32)) (x1 : Int32) (r : Int32) (hf : f_X12_look i_p0_taped v_p0_tape x1 = some r) : Met l yX12_look wsX12_look rm_X12_look (pcG D G [.ref a_p0, .int x1] sz [(a_p0, .inr (12, [.ref a_p0_st, .ref a_p0_isKept, .int i_p0_seats, .int i_p0_stirs, .ref a_p0_brings, .ref a_p0_need, .ref a_p0_draft, .int i_p0_dSeats, .int i_p0_dStirs, .ref a_p0_dStir, .ref a_p0_dNeed, .int i_p0_told, .int i_p0_highest, .ref a_p0_tape, .int i_p0_taped, .int i_p0_pos, .int i_p0_from, .int i_p0_sort, .int i_p0_value, .int i_p0_fault, .int i_p0_wrongAt, .ref a_p0_places, .ref a_p0_stirred, .ref a_p0_ways, .ref a_p0_waysThen, .ref a_p0_stays, .ref a_p0_fewest, .ref a_p0_bowls, .ref a_p0_has, .ref a_p0_goesOn, .ref a_p0_isThere, .ref a_p0_isThereThen, .ref a_p0_bestRow, .ref a_p0_lanes, .ref a_p0_sizes, .ref a_p0_cells, .int i_p0_torn])), (a_p0_tape, .inl (G 1, 320, .inl v_p0_tape))]) (qcI D G r [(a_p0, .inr (12, [.ref a_p0_st, .ref a_p0_isKept, .int i_p0_seats, .int i_p0_stirs, .ref a_p0_brings, .ref a_p0_need, .ref a_p0_draft, .int i_p0_dSeats, .int i_p0_dStirs, .ref a_p0_dStir, .ref a_p0_dNeed, .int i_p0_told, .int i_p0_highest, .ref a_p0_tape, .int i_p0_taped, .int i_p0_pos, .int i_p0_from, .int i_p0_sort, .int i_p0_value, .int i_p0_fault, .int i_p0_wrongAt, .ref a_p0_places, .ref a_p0_stirred, .ref a_p0_ways, .ref a_p0_waysThen, .ref a_p0_stays, .ref a_p0_fewest, .ref a_p0_bowls, .ref a_p0_has, .ref a_p0_goesOn, .ref a_p0_isThere, .ref a_p0_isThereThen, .ref a_p0_bestRow, .ref a_p0_lanes, .ref a_p0_sizes, .ref a_p0_cells, .int i_p0_torn])), (a_p0_tape, .inl (G 1, 320, .inl v_p0_tape))] (va_A [(a_p0, .inr (12, [.ref a_p0_st, .ref a_p0_isKept, .int i_p0_seats, .int i_p0_stirs, .ref a_p0_brings, .ref a_p0_need, .ref a_p0_draft, .int i_p0_dSeats, .int i_p0_dStirs, .ref a_p0_dStir, .ref a_p0_dNeed, .int i_p0_told, .int i_p0_highest, .ref a_p0_tape, .int i_p0_taped, .int i_p0_pos, .int i_p0_from, .int i_p0_sort, .int i_p0_value, .int i_p0_fault, .int i_p0_wrongAt, .ref a_p0_places, .ref a_p0_stirred, .ref a_p0_ways, .ref a_p0_waysThen, .ref a_p0_stays, .ref a_p0_fewest, .ref a_p0_bowls, .ref a_p0_has, .ref a_p0_goesOn, .ref a_p0_isThere, .ref a_p0_isThereThen, .ref a_p0_bestRow, .ref a_p0_lanes, .ref a_p0_sizes, .ref a_p0_cells, .int i_p0_torn])), (a_p0_tape, .inl (G 1, 320, .inl v_p0_tape))] sz)) 0 0 (va_A [(a_p0, .inr (12, [.ref a_p0_st, .ref a_p0_isKept, .int i_p0_seats, .int i_p0_stirs, .ref a_p0_brings, .ref a_p0_need, .ref a_p0_draft, .int i_p0_dSeats, .int i_p0_dStirs, .ref a_p0_dStir, .ref a_p0_dNeed, .int i_p0_told, .int i_p0_highest, .ref a_p0_tape, .int i_p0_taped, .int i_p0_pos, .int i_p0_from, .int i_p0_sort, .int i_p0_value, .int i_p0_fault, .int i_p0_wrongAt, .ref a_p0_places, .ref a_p0_stirred, .ref a_p0_ways, .ref a_p0_waysThen, .ref a_p0_stays, .ref a_p0_fewest, .ref a_p0_bowls, .ref a_p0_has, .ref a_p0_goesOn, .ref a_p0_isThere, .ref a_p0_isThereThen, .ref a_p0_bestRow, .ref a_p0_lanes, .ref a_p0_sizes, .ref a_p0_cells, .int i_p0_torn])), (a_p0_tape, .inl (G 1, 320, .inl v_p0_tape))] sz) := by
  refine Met.ofW (cc := cX12_look) (maxL := 2) (ret := (some .int)) (by decide) rfl ?_
  intro p e s m args below meth c s₁ B hml hv
  obtain ⟨rfl, hsz, hP, hK, hD0⟩ := hv
  have hx := B.exec
  have hb := B.bytes
  have hr := B.returns
  have hts := atoms_spec (ws := wsX12_look) B.pre
  have hown : s.vm.findClass RX12 = some m.cls := findClass_of_methodNamed B.named
  have hlocks := B.notSynchronized
  subst hsz
  have hD := hD0.self (sz := s.heap.size)
  generalize hAe : va_A [(a_p0, .inr (12, [.ref a_p0_st, .ref a_p0_isKept, .int i_p0_seats, .int i_p0_stirs, .ref a_p0_brings, .ref a_p0_need, .ref a_p0_draft, .int i_p0_dSeats, .int i_p0_dStirs, .ref a_p0_dStir, .ref a_p0_dNeed, .int i_p0_told, .int i_p0_highest, .ref a_p0_tape, .int i_p0_taped, .int i_p0_pos, .int i_p0_from, .int i_p0_sort, .int i_p0_value, .int i_p0_fault, .int i_p0_wrongAt, .ref a_p0_places, .ref a_p0_stirred, .ref a_p0_ways, .ref a_p0_waysThen, .ref a_p0_stays, .ref a_p0_fewest, .ref a_p0_bowls, .ref a_p0_has, .ref a_p0_goesOn, .ref a_p0_isThere, .ref a_p0_isThereThen, .ref a_p0_bestRow, .ref a_p0_lanes, .ref a_p0_sizes, .ref a_p0_cells, .int i_p0_torn])), (a_p0_tape, .inl (G 1, 320, .inl v_p0_tape))] s.heap.size = A at hD ⊢
  have hA : ∀ q : Nat, s.heap.size ≤ q → A q := fun q h => by rw [← hAe]; exact Or.inr h
  clear hAe hD0
  have hS : va_S A s.heap s.heap [] := va_S.rf
  have hl := lv_entry ([.ref a_p0, .int x1]) (n := 2) (Nat.le_of_ble_eq_true rfl)
  rw [lg_entry_eq]
  generalize (lg_sl ([.ref a_p0, .int x1]) ++ List.replicate (2 - (lg_sl ([.ref a_p0, .int x1])).length) Slot.unset).toArray = ls at hl ⊢
  have hl : lv_has ls 2 [(0, .ref a_p0), (1, .int x1)] := hl
  refine W_nameQ (fun Q hQ => ?_)
  obtain ⟨H, hH⟩ : ∃ H, H = s.heap := ⟨_, rfl⟩
  replace hS : va_S A s.heap H [] := by rw [hH]; exact hS
  replace hP : va_P D vwCl [(a_p0, .inr (12, [.ref a_p0_st, .ref a_p0_isKept, .int i_p0_seats, .int i_p0_stirs, .ref a_p0_brings, .ref a_p0_need, .ref a_p0_draft, .int i_p0_dSeats, .int i_p0_dStirs, .ref a_p0_dStir, .ref a_p0_dNeed, .int i_p0_told, .int i_p0_highest, .ref a_p0_tape, .int i_p0_taped, .int i_p0_pos, .int i_p0_from, .int i_p0_sort, .int i_p0_value, .int i_p0_fault, .int i_p0_wrongAt, .ref a_p0_places, .ref a_p0_stirred, .ref a_p0_ways, .ref a_p0_waysThen, .ref a_p0_stays, .ref a_p0_fewest, .ref a_p0_bowls, .ref a_p0_has, .ref a_p0_goesOn, .ref a_p0_isThere, .ref a_p0_isThereThen, .ref a_p0_bestRow, .ref a_p0_lanes, .ref a_p0_sizes, .ref a_p0_cells, .int i_p0_torn])), (a_p0_tape, .inl (G 1, 320, .inl v_p0_tape))] H := by rw [hH]; exact hP
  rw [← hH]
  clear hH
  unfold f_X12_look at hf
  refine lv_iload_n hx hb dX12_look_0 rfl (lv_at hl 1 rfl) ?_
  refine lv_aload_n hx hb dX12_look_1 rfl (lv_at hl 0 rfl) ?_
  refine va_get (D := D) (ci := 12) (v := .int i_p0_taped) (C := RX12) (T := TX12) (N := 37) hx hb hts inX12_look_X12 hown hK hP 0 rfl rfl 14 (by decide) (hts _ mwX12_look_1) (fun _ h9 => h9) rfl dX12_look_2 ?_
  refine lv_icmp_ge (tgt := 17) hx hb dX12_look_5 (by decide) (fun cc => ?_) (fun cc => ?_)
  ·
    replace hf := ite_t cc hf
    clear cc
    refine lv_iconst (v := (-1 : Int32)) hx hb dX12_look_17 (by decide) ?_
    obtain rfl := ou1 hf
    rw [hQ]
    exact W.iret hx hb hr (fun t ht hW => ⟨⟨_, (), rfl, rfl, by rw [ht]; exact hP, va_K.moved hW.alike hK, hD⟩, hS.F ht⟩) hS.2.2 dX12_look_18
  ·
    replace hf := ite_f cc hf
    clear cc
    refine lv_aload_n hx hb dX12_look_8 rfl (lv_at hl 0 rfl) ?_
    refine va_get (D := D) (ci := 12) (v := .ref a_p0_tape) (C := RX12) (T := TX12) (N := 37) hx hb hts inX12_look_X12 hown hK hP 0 rfl rfl 13 (by decide) (hts _ mwX12_look_2) (fun _ h9 => h9) rfl dX12_look_9 ?_
    refine lv_iload_n hx hb dX12_look_12 rfl (lv_at hl 1 rfl) ?_
    have hc := ck_c hf
    replace hf := ck_r hf
    refine va_iald hx hb hK hP 1 1 rfl rfl (ixB_in hc) dX12_look_13 ?_
    clear hc
    refine lv_goto (tgt := 18) hx hb dX12_look_14 (by decide) ?_
    obtain rfl := ou1 hf
    rw [hQ]
    exact W.iret hx hb hr (fun t ht hW => ⟨⟨_, (), rfl, rfl, by rw [ht]; exact hP, va_K.moved hW.alike hK, hD⟩, hS.F ht⟩) hS.2.2 dX12_look_18

noncomputable def B_X12_nextToken_140 (i_p0_taped : Int32) (v_p0_tape : (Nat → Int32)) (J18 : Int32 → Int32 → Option (Int32 × Int32 × Int32 × Int32 × Int32 × Int32)) (z3 : Int32) (again140 : Int32 → Int32 → Option (Int32 × Int32 × Int32 × Int32 × Int32 × Int32)) (z23 : Int32) (z24 : Int32) : Option (Int32 × Int32 × Int32 × Int32 × Int32 × Int32) := (bd1 (f_X12_look i_p0_taped v_p0_tape z23) (fun (z26 : Int32) => (bd1 (f_X12_in (z26).toInt64 (48 : Int64) (57 : Int64)) (fun (z27 : Int32) => (if z27 = 0 then (J18 z23 z24) else (jn (fun (z28 : Int32) => (bnd z28 (fun (z30 : Int32) => (bnd (z23 + (1 : Int32)) (fun (z31 : Int32) => (again140 z31 z30)))))) (fun (J29 : Int32 → Option (Int32 × Int32 × Int32 × Int32 × Int32 × Int32)) => (if (2 : Int32) ≤ (z23 - z3) then (J29 z24) else (bd1 (f_X12_look i_p0_taped v_p0_tape z23) (fun (z32 : Int32) => (J29 ((((10 : Int32) * z24) + z32) - (48 : Int32)))))))))))))
noncomputable def B_X12_nextToken_82 (i_p0_taped : Int32) (v_p0_tape : (Nat → Int32)) (z3 : Int32) (z33 : Int32) (i_p0_value : Int32) (i_p0_fault : Int32) (i_p0_wrongAt : Int32) (again82 : Int32 → Option (Int32 × Int32 × Int32 × Int32 × Int32 × Int32)) (z34 : Int32) : Option (Int32 × Int32 × Int32 × Int32 × Int32 × Int32) := (bd1 (f_X12_look i_p0_taped v_p0_tape z34) (fun (z36 : Int32) => (bd1 (f_X12_in (z36).toInt64 (97 : Int64) (122 : Int64)) (fun (z37 : Int32) => (if z37 = 0 then (some (z34, z3, z33, i_p0_value, i_p0_fault, i_p0_wrongAt)) else (bnd (z34 + (1 : Int32)) (fun (z38 : Int32) => (again82 z38))))))))
noncomputable def B_X12_nextToken_8 (i_p0_taped : Int32) (v_p0_tape : (Nat → Int32)) (J2 : Int32 → Option (Int32 × Int32 × Int32 × Int32 × Int32 × Int32)) (again8 : Int32 → Option (Int32 × Int32 × Int32 × Int32 × Int32 × Int32)) (z40 : Int32) : Option (Int32 × Int32 × Int32 × Int32 × Int32 × Int32) := (bd1 (f_X12_look i_p0_taped v_p0_tape z40) (fun (z42 : Int32) => (if z42 = (32 : Int32) then (bnd (z40 + (1 : Int32)) (fun (z43 : Int32) => (again8 z43))) else (J2 z40))))
noncomputable def f_X12_nextToken (i_p0_taped : Int32) (i_p0_pos : Int32) (i_p0_from : Int32) (i_p0_sort : Int32) (i_p0_value : Int32) (i_p0_fault : Int32) (i_p0_wrongAt : Int32) (v_p0_tape : (Nat → Int32)) : Option (Int32 × Int32 × Int32 × Int32 × Int32 × Int32) := (if i_p0_fault ≤ 0 then (jn (fun (z1 : Int32) => (bnd z1 (fun (z3 : Int32) => (bd1 (f_X12_look i_p0_taped v_p0_tape z1) (fun (z4 : Int32) => (bnd z4 (fun (z5 : Int32) => (if 0 ≤ z5 then (bd1 (f_X12_in (z5).toInt64 (97 : Int64) (122 : Int64)) (fun (z6 : Int32) => (if z6 = 0 then (bd1 (f_X12_in (z5).toInt64 (48 : Int64) (57 : Int64)) (fun (z7 : Int32) => (if z7 = 0 then (bnd (3 : Int32) (fun (z8 : Int32) => (jn (fun (z9 : Int32) => (bd2 (f_X12_needs z3 i_p0_fault i_p0_wrongAt z9 (1 : Int32)) (fun (z11 : Int32) (z12 : Int32) => (bnd (z1 + (1 : Int32)) (fun (z13 : Int32) => (some (z13, z3, z8, i_p0_value, z11, z12))))))) (fun (J10 : Int32 → Option (Int32 × Int32 × Int32 × Int32 × Int32 × Int32)) => (if z5 = (59 : Int32) then (J10 (1 : Int32)) else (J10 (0 : Int32))))))) else (bnd (2 : Int32) (fun (z14 : Int32) => (bnd (0 : Int32) (fun (z15 : Int32) => (jn (fun (z16 : Int32) (z17 : Int32) => (if (2 : Int32) < (z16 - z3) then (bd2 (f_X12_needs z3 i_p0_fault i_p0_wrongAt (0 : Int32) (1 : Int32)) (fun (z19 : Int32) (z20 : Int32) => (some (z16, z3, z14, z17, z19, z20)))) else (bd2 (f_X12_needs z3 i_p0_fault i_p0_wrongAt (1 : Int32) (1 : Int32)) (fun (z21 : Int32) (z22 : Int32) => (some (z16, z3, z14, z17, z21, z22)))))) (fun (J18 : Int32 → Int32 → Option (Int32 × Int32 × Int32 × Int32 × Int32 × Int32)) => (lq2 (B_X12_nextToken_140 i_p0_taped v_p0_tape J18 z3) 1000 z1 z15)))))))))) else (bnd (1 : Int32) (fun (z33 : Int32) => (lq1 (B_X12_nextToken_82 i_p0_taped v_p0_tape z3 z33 i_p0_value i_p0_fault i_p0_wrongAt) 1000 z1)))))) else (bnd (0 : Int32) (fun (z39 : Int32) => (some (z1, z3, z39, i_p0_value, i_p0_fault, i_p0_wrongAt)))))))))))) (fun (J2 : Int32 → Option (Int32 × Int32 × Int32 × Int32 × Int32 × Int32)) => (lq1 (B_X12_nextToken_8 i_p0_taped v_p0_tape J2) 1000 i_p0_pos))) else (some (i_p0_pos, i_p0_from, i_p0_sort, i_p0_value, i_p0_fault, i_p0_wrongAt)))
abbrev rm_X12_nextToken : Room := { frames := 1, cells := 0, slots := 0, locals := 25 }
theorem inX12_nextToken_X12 : ∀ w ∈ wsX120, w ∈ wsX12_nextToken := by decide +kernel
theorem mwX12_nextToken_1 : Cond.fieldLink RX12 119 "LadleKingsModel" "fault" "I" ∈ wsX12_nextToken := by decide +kernel
theorem mwX12_nextToken_2 : Cond.fieldLink RX12 128 "LadleKingsModel" "pos" "I" ∈ wsX12_nextToken := by decide +kernel
theorem mwX12_nextToken_3 : Cond.fieldLink RX12 122 "LadleKingsModel" "from" "I" ∈ wsX12_nextToken := by decide +kernel
theorem mwX12_nextToken_4 : Cond.constantLong RX12 150 (97) ∈ wsX12_nextToken := by decide +kernel
theorem mwX12_nextToken_5 : Cond.constantLong RX12 152 (122) ∈ wsX12_nextToken := by decide +kernel
theorem mwX12_nextToken_6 : Cond.constantLong RX12 154 (48) ∈ wsX12_nextToken := by decide +kernel
theorem mwX12_nextToken_7 : Cond.constantLong RX12 156 (57) ∈ wsX12_nextToken := by decide +kernel
theorem mwX12_nextToken_8 : Cond.fieldLink RX12 147 "LadleKingsModel" "sort" "I" ∈ wsX12_nextToken := by decide +kernel
theorem mwX12_nextToken_9 : Cond.fieldLink RX12 158 "LadleKingsModel" "value" "I" ∈ wsX12_nextToken := by decide +kernel
set_option maxHeartbeats 8000000 in
set_option maxRecDepth 100000 in
theorem c_X12_nextToken (l : Launch) (D : va_G) (G : Nat → ClassId) (sz : Nat) (a_p0 : Nat) (a_p0_st : Nat) (a_p0_isKept : Nat) (a_p0_brings : Nat) (a_p0_need : Nat) (a_p0_draft : Nat) (a_p0_dStir : Nat) (a_p0_dNeed : Nat) (a_p0_tape : Nat) (a_p0_places : Nat) (a_p0_stirred : Nat) (a_p0_ways : Nat) (a_p0_waysThen : Nat) (a_p0_stays : Nat) (a_p0_fewest : Nat) (a_p0_bowls : Nat) (a_p0_has : Nat) (a_p0_goesOn : Nat) (a_p0_isThere : Nat) (a_p0_isThereThen : Nat) (a_p0_bestRow : Nat) (a_p0_lanes : Nat) (a_p0_sizes : Nat) (a_p0_cells : Nat) (i_p0_seats : Int32) (i_p0_stirs : Int32) (i_p0_dSeats : Int32) (i_p0_dStirs : Int32) (i_p0_told : Int32) (i_p0_highest : Int32) (i_p0_taped : Int32) (i_p0_pos : Int32) (i_p0_from : Int32) (i_p0_sort : Int32) (i_p0_value : Int32) (i_p0_fault : Int32) (i_p0_wrongAt : Int32) (i_p0_torn : Int32) (v_p0_tape : (Nat → Int32)) (o_i_p0_pos : Int32) (o_i_p0_from : Int32) (o_i_p0_sort : Int32) (o_i_p0_value : Int32) (o_i_p0_fault : Int32) (o_i_p0_wrongAt : Int32) (hf : f_X12_nextToken i_p0_taped i_p0_pos i_p0_from i_p0_sort i_p0_value i_p0_fault i_p0_wrongAt v_p0_tape = some (o_i_p0_pos, o_i_p0_from, o_i_p0_sort, o_i_p0_value, o_i_p0_fault, o_i_p0_wrongAt)) : Met l yX12_nextToken wsX12_nextToken rm_X12_nextToken (pcG D G [.ref a_p0] sz [(a_p0, .inr (12, [.ref a_p0_st, .ref a_p0_isKept, .int i_p0_seats, .int i_p0_stirs, .ref a_p0_brings, .ref a_p0_need, .ref a_p0_draft, .int i_p0_dSeats, .int i_p0_dStirs, .ref a_p0_dStir, .ref a_p0_dNeed, .int i_p0_told, .int i_p0_highest, .ref a_p0_tape, .int i_p0_taped, .int i_p0_pos, .int i_p0_from, .int i_p0_sort, .int i_p0_value, .int i_p0_fault, .int i_p0_wrongAt, .ref a_p0_places, .ref a_p0_stirred, .ref a_p0_ways, .ref a_p0_waysThen, .ref a_p0_stays, .ref a_p0_fewest, .ref a_p0_bowls, .ref a_p0_has, .ref a_p0_goesOn, .ref a_p0_isThere, .ref a_p0_isThereThen, .ref a_p0_bestRow, .ref a_p0_lanes, .ref a_p0_sizes, .ref a_p0_cells, .int i_p0_torn])), (a_p0_tape, .inl (G 1, 320, .inl v_p0_tape))]) (qcV D G [(a_p0, .inr (12, [.ref a_p0_st, .ref a_p0_isKept, .int i_p0_seats, .int i_p0_stirs, .ref a_p0_brings, .ref a_p0_need, .ref a_p0_draft, .int i_p0_dSeats, .int i_p0_dStirs, .ref a_p0_dStir, .ref a_p0_dNeed, .int i_p0_told, .int i_p0_highest, .ref a_p0_tape, .int i_p0_taped, .int o_i_p0_pos, .int o_i_p0_from, .int o_i_p0_sort, .int o_i_p0_value, .int o_i_p0_fault, .int o_i_p0_wrongAt, .ref a_p0_places, .ref a_p0_stirred, .ref a_p0_ways, .ref a_p0_waysThen, .ref a_p0_stays, .ref a_p0_fewest, .ref a_p0_bowls, .ref a_p0_has, .ref a_p0_goesOn, .ref a_p0_isThere, .ref a_p0_isThereThen, .ref a_p0_bestRow, .ref a_p0_lanes, .ref a_p0_sizes, .ref a_p0_cells, .int i_p0_torn])), (a_p0_tape, .inl (G 1, 320, .inl v_p0_tape))] (va_A [(a_p0, .inr (12, [.ref a_p0_st, .ref a_p0_isKept, .int i_p0_seats, .int i_p0_stirs, .ref a_p0_brings, .ref a_p0_need, .ref a_p0_draft, .int i_p0_dSeats, .int i_p0_dStirs, .ref a_p0_dStir, .ref a_p0_dNeed, .int i_p0_told, .int i_p0_highest, .ref a_p0_tape, .int i_p0_taped, .int i_p0_pos, .int i_p0_from, .int i_p0_sort, .int i_p0_value, .int i_p0_fault, .int i_p0_wrongAt, .ref a_p0_places, .ref a_p0_stirred, .ref a_p0_ways, .ref a_p0_waysThen, .ref a_p0_stays, .ref a_p0_fewest, .ref a_p0_bowls, .ref a_p0_has, .ref a_p0_goesOn, .ref a_p0_isThere, .ref a_p0_isThereThen, .ref a_p0_bestRow, .ref a_p0_lanes, .ref a_p0_sizes, .ref a_p0_cells, .int i_p0_torn])), (a_p0_tape, .inl (G 1, 320, .inl v_p0_tape))] sz)) 0 0 (va_A [(a_p0, .inr (12, [.ref a_p0_st, .ref a_p0_isKept, .int i_p0_seats, .int i_p0_stirs, .ref a_p0_brings, .ref a_p0_need, .ref a_p0_draft, .int i_p0_dSeats, .int i_p0_dStirs, .ref a_p0_dStir, .ref a_p0_dNeed, .int i_p0_told, .int i_p0_highest, .ref a_p0_tape, .int i_p0_taped, .int i_p0_pos, .int i_p0_from, .int i_p0_sort, .int i_p0_value, .int i_p0_fault, .int i_p0_wrongAt, .ref a_p0_places, .ref a_p0_stirred, .ref a_p0_ways, .ref a_p0_waysThen, .ref a_p0_stays, .ref a_p0_fewest, .ref a_p0_bowls, .ref a_p0_has, .ref a_p0_goesOn, .ref a_p0_isThere, .ref a_p0_isThereThen, .ref a_p0_bestRow, .ref a_p0_lanes, .ref a_p0_sizes, .ref a_p0_cells, .int i_p0_torn])), (a_p0_tape, .inl (G 1, 320, .inl v_p0_tape))] sz) := by
  refine Met.ofW (cc := cX12_nextToken) (maxL := 2) (ret := none) (by decide) rfl ?_
  intro p e s m args below meth c s₁ B hml hv
  obtain ⟨rfl, hsz, hP, hK, hD0⟩ := hv
  have hx := B.exec
  have hb := B.bytes
  have hr := B.returns
  have hts := atoms_spec (ws := wsX12_nextToken) B.pre
  have hown : s.vm.findClass RX12 = some m.cls := findClass_of_methodNamed B.named
  have hlocks := B.notSynchronized
  subst hsz
  have hD := hD0.self (sz := s.heap.size)
  generalize hAe : va_A [(a_p0, .inr (12, [.ref a_p0_st, .ref a_p0_isKept, .int i_p0_seats, .int i_p0_stirs, .ref a_p0_brings, .ref a_p0_need, .ref a_p0_draft, .int i_p0_dSeats, .int i_p0_dStirs, .ref a_p0_dStir, .ref a_p0_dNeed, .int i_p0_told, .int i_p0_highest, .ref a_p0_tape, .int i_p0_taped, .int i_p0_pos, .int i_p0_from, .int i_p0_sort, .int i_p0_value, .int i_p0_fault, .int i_p0_wrongAt, .ref a_p0_places, .ref a_p0_stirred, .ref a_p0_ways, .ref a_p0_waysThen, .ref a_p0_stays, .ref a_p0_fewest, .ref a_p0_bowls, .ref a_p0_has, .ref a_p0_goesOn, .ref a_p0_isThere, .ref a_p0_isThereThen, .ref a_p0_bestRow, .ref a_p0_lanes, .ref a_p0_sizes, .ref a_p0_cells, .int i_p0_torn])), (a_p0_tape, .inl (G 1, 320, .inl v_p0_tape))] s.heap.size = A at hD ⊢
  have hA : ∀ q : Nat, s.heap.size ≤ q → A q := fun q h => by rw [← hAe]; exact Or.inr h
  clear hAe hD0
  have hS : va_S A s.heap s.heap [] := va_S.rf
  have hl := lv_entry ([.ref a_p0]) (n := 2) (Nat.le_of_ble_eq_true rfl)
  rw [lg_entry_eq]
  generalize (lg_sl ([.ref a_p0]) ++ List.replicate (2 - (lg_sl ([.ref a_p0])).length) Slot.unset).toArray = ls at hl ⊢
  have hl : lv_has ls 2 [(0, .ref a_p0)] := hl
  refine W_nameQ (fun Q hQ => ?_)
  obtain ⟨H, hH⟩ : ∃ H, H = s.heap := ⟨_, rfl⟩
  replace hS : va_S A s.heap H [] := by rw [hH]; exact hS
  replace hP : va_P D vwCl [(a_p0, .inr (12, [.ref a_p0_st, .ref a_p0_isKept, .int i_p0_seats, .int i_p0_stirs, .ref a_p0_brings, .ref a_p0_need, .ref a_p0_draft, .int i_p0_dSeats, .int i_p0_dStirs, .ref a_p0_dStir, .ref a_p0_dNeed, .int i_p0_told, .int i_p0_highest, .ref a_p0_tape, .int i_p0_taped, .int i_p0_pos, .int i_p0_from, .int i_p0_sort, .int i_p0_value, .int i_p0_fault, .int i_p0_wrongAt, .ref a_p0_places, .ref a_p0_stirred, .ref a_p0_ways, .ref a_p0_waysThen, .ref a_p0_stays, .ref a_p0_fewest, .ref a_p0_bowls, .ref a_p0_has, .ref a_p0_goesOn, .ref a_p0_isThere, .ref a_p0_isThereThen, .ref a_p0_bestRow, .ref a_p0_lanes, .ref a_p0_sizes, .ref a_p0_cells, .int i_p0_torn])), (a_p0_tape, .inl (G 1, 320, .inl v_p0_tape))] H := by rw [hH]; exact hP
  rw [← hH]
  clear hH
  unfold f_X12_nextToken at hf
  refine lv_aload_n hx hb dX12_nextToken_0 rfl (lv_at hl 0 rfl) ?_
  refine va_get (D := D) (ci := 12) (v := .int i_p0_fault) (C := RX12) (T := TX12) (N := 37) hx hb hts inX12_nextToken_X12 hown hK hP 0 rfl rfl 19 (by decide) (hts _ mwX12_nextToken_1) (fun _ h9 => h9) rfl dX12_nextToken_1 ?_
  refine lv_if_le (tgt := 8) hx hb dX12_nextToken_4 (by decide) (fun cc => ?_) (fun cc => ?_)
  ·
    replace hf := ite_t cc hf
    clear cc
    have hq := jn_i hf
    clear hf
    obtain ⟨J2, eJ2, hf⟩ := hq
    have hJ2 : ∀ (z1 : Int32) (ls : Array Slot) (H : Heap) (locs : List Loc), lv_has ls 2 [(0, .ref a_p0)] → va_P D vwCl [(a_p0, .inr (12, [.ref a_p0_st, .ref a_p0_isKept, .int i_p0_seats, .int i_p0_stirs, .ref a_p0_brings, .ref a_p0_need, .ref a_p0_draft, .int i_p0_dSeats, .int i_p0_dStirs, .ref a_p0_dStir, .ref a_p0_dNeed, .int i_p0_told, .int i_p0_highest, .ref a_p0_tape, .int i_p0_taped, .int z1, .int i_p0_from, .int i_p0_sort, .int i_p0_value, .int i_p0_fault, .int i_p0_wrongAt, .ref a_p0_places, .ref a_p0_stirred, .ref a_p0_ways, .ref a_p0_waysThen, .ref a_p0_stays, .ref a_p0_fewest, .ref a_p0_bowls, .ref a_p0_has, .ref a_p0_goesOn, .ref a_p0_isThere, .ref a_p0_isThereThen, .ref a_p0_bestRow, .ref a_p0_lanes, .ref a_p0_sizes, .ref a_p0_cells, .int i_p0_torn])), (a_p0_tape, .inl (G 1, 320, .inl v_p0_tape))] H → va_D A [(a_p0, .inr (12, [.ref a_p0_st, .ref a_p0_isKept, .int i_p0_seats, .int i_p0_stirs, .ref a_p0_brings, .ref a_p0_need, .ref a_p0_draft, .int i_p0_dSeats, .int i_p0_dStirs, .ref a_p0_dStir, .ref a_p0_dNeed, .int i_p0_told, .int i_p0_highest, .ref a_p0_tape, .int i_p0_taped, .int z1, .int i_p0_from, .int i_p0_sort, .int i_p0_value, .int i_p0_fault, .int i_p0_wrongAt, .ref a_p0_places, .ref a_p0_stirred, .ref a_p0_ways, .ref a_p0_waysThen, .ref a_p0_stays, .ref a_p0_fewest, .ref a_p0_bowls, .ref a_p0_has, .ref a_p0_goesOn, .ref a_p0_isThere, .ref a_p0_isThereThen, .ref a_p0_bestRow, .ref a_p0_lanes, .ref a_p0_sizes, .ref a_p0_cells, .int i_p0_torn])), (a_p0_tape, .inl (G 1, 320, .inl v_p0_tape))] → va_S A s.heap H locs → J2 z1 = some (o_i_p0_pos, o_i_p0_from, o_i_p0_sort, o_i_p0_value, o_i_p0_fault, o_i_p0_wrongAt) → W p l e rm_X12_nextToken s m ([.ref a_p0] : List Value).toArray below meth c H locs 0 0 Q (F0 m 34 ls []) := by
      clear hf hl hP hD hS
      intro z1 ls H locs hl hP hD hS hf
      replace hf := jn1_s eJ2 hf
      refine lv_aload_n hx hb dX12_nextToken_34 rfl (lv_at hl 0 rfl) ?_
      refine lv_aload_n hx hb dX12_nextToken_35 rfl (lv_at hl 0 rfl) ?_
      refine va_get (D := D) (ci := 12) (v := .int z1) (C := RX12) (T := TX12) (N := 37) hx hb hts inX12_nextToken_X12 hown hK hP 0 rfl rfl 15 (by decide) (hts _ mwX12_nextToken_2) (fun _ h9 => h9) rfl dX12_nextToken_36 ?_
      refine lv_topi (fun z3 ez => ?_)
      replace hf := bnd_s hf ez
      clear ez
      refine va_put (D := D) (ci := 12) (v := .int z3) (ty := .int) (C := RX12) (T := TX12) (N := 37) hx hb hts inX12_nextToken_X12 tyX12 tyX12_ok nmX12 hown hK hP hD hS 0 rfl rfl 16 (by decide) (hts _ mwX12_nextToken_3) (fun _ h9 => h9) rfl (by decide +kernel) rfl rfl (Nat.le_of_ble_eq_true rfl) dX12_nextToken_39 (fun H locs hP hD hS => ?_)
      have hP : va_P D vwCl [(a_p0, .inr (12, [.ref a_p0_st, .ref a_p0_isKept, .int i_p0_seats, .int i_p0_stirs, .ref a_p0_brings, .ref a_p0_need, .ref a_p0_draft, .int i_p0_dSeats, .int i_p0_dStirs, .ref a_p0_dStir, .ref a_p0_dNeed, .int i_p0_told, .int i_p0_highest, .ref a_p0_tape, .int i_p0_taped, .int z1, .int z3, .int i_p0_sort, .int i_p0_value, .int i_p0_fault, .int i_p0_wrongAt, .ref a_p0_places, .ref a_p0_stirred, .ref a_p0_ways, .ref a_p0_waysThen, .ref a_p0_stays, .ref a_p0_fewest, .ref a_p0_bowls, .ref a_p0_has, .ref a_p0_goesOn, .ref a_p0_isThere, .ref a_p0_isThereThen, .ref a_p0_bestRow, .ref a_p0_lanes, .ref a_p0_sizes, .ref a_p0_cells, .int i_p0_torn])), (a_p0_tape, .inl (G 1, 320, .inl v_p0_tape))] H := hP
      have hD : va_D A [(a_p0, .inr (12, [.ref a_p0_st, .ref a_p0_isKept, .int i_p0_seats, .int i_p0_stirs, .ref a_p0_brings, .ref a_p0_need, .ref a_p0_draft, .int i_p0_dSeats, .int i_p0_dStirs, .ref a_p0_dStir, .ref a_p0_dNeed, .int i_p0_told, .int i_p0_highest, .ref a_p0_tape, .int i_p0_taped, .int z1, .int z3, .int i_p0_sort, .int i_p0_value, .int i_p0_fault, .int i_p0_wrongAt, .ref a_p0_places, .ref a_p0_stirred, .ref a_p0_ways, .ref a_p0_waysThen, .ref a_p0_stays, .ref a_p0_fewest, .ref a_p0_bowls, .ref a_p0_has, .ref a_p0_goesOn, .ref a_p0_isThere, .ref a_p0_isThereThen, .ref a_p0_bestRow, .ref a_p0_lanes, .ref a_p0_sizes, .ref a_p0_cells, .int i_p0_torn])), (a_p0_tape, .inl (G 1, 320, .inl v_p0_tape))] := hD
      refine lv_aload_n hx hb dX12_nextToken_42 rfl (lv_at hl 0 rfl) ?_
      refine lv_aload_n hx hb dX12_nextToken_43 rfl (lv_at hl 0 rfl) ?_
      refine va_get (D := D) (ci := 12) (v := .int z1) (C := RX12) (T := TX12) (N := 37) hx hb hts inX12_nextToken_X12 hown hK hP 0 rfl rfl 15 (by decide) (hts _ mwX12_nextToken_2) (fun _ h9 => h9) rfl dX12_nextToken_44 ?_
      have hq := bd1_s hf
      clear hf
      obtain ⟨z4, hcall, hf⟩ := hq
      refine gcI (ws' := [(a_p0, .inr (12, [.ref a_p0_st, .ref a_p0_isKept, .int i_p0_seats, .int i_p0_stirs, .ref a_p0_brings, .ref a_p0_need, .ref a_p0_draft, .int i_p0_dSeats, .int i_p0_dStirs, .ref a_p0_dStir, .ref a_p0_dNeed, .int i_p0_told, .int i_p0_highest, .ref a_p0_tape, .int i_p0_taped, .int z1, .int z3, .int i_p0_sort, .int i_p0_value, .int i_p0_fault, .int i_p0_wrongAt, .ref a_p0_places, .ref a_p0_stirred, .ref a_p0_ways, .ref a_p0_waysThen, .ref a_p0_stays, .ref a_p0_fewest, .ref a_p0_bowls, .ref a_p0_has, .ref a_p0_goesOn, .ref a_p0_isThere, .ref a_p0_isThereThen, .ref a_p0_bestRow, .ref a_p0_lanes, .ref a_p0_sizes, .ref a_p0_cells, .int i_p0_torn])), (a_p0_tape, .inl (G 1, 320, .inl v_p0_tape))]) (va_runV (As := [.int z1]) (rest := []) ⟨hx, hb, hml, hown, hts⟩ (c_X12_look (l := l) (D := D) (G := G) (sz := H.size) (a_p0 := a_p0) (a_p0_st := a_p0_st) (a_p0_isKept := a_p0_isKept) (a_p0_brings := a_p0_brings) (a_p0_need := a_p0_need) (a_p0_draft := a_p0_draft) (a_p0_dStir := a_p0_dStir) (a_p0_dNeed := a_p0_dNeed) (a_p0_tape := a_p0_tape) (a_p0_places := a_p0_places) (a_p0_stirred := a_p0_stirred) (a_p0_ways := a_p0_ways) (a_p0_waysThen := a_p0_waysThen) (a_p0_stays := a_p0_stays) (a_p0_fewest := a_p0_fewest) (a_p0_bowls := a_p0_bowls) (a_p0_has := a_p0_has) (a_p0_goesOn := a_p0_goesOn) (a_p0_isThere := a_p0_isThere) (a_p0_isThereThen := a_p0_isThereThen) (a_p0_bestRow := a_p0_bestRow) (a_p0_lanes := a_p0_lanes) (a_p0_sizes := a_p0_sizes) (a_p0_cells := a_p0_cells) (i_p0_seats := i_p0_seats) (i_p0_stirs := i_p0_stirs) (i_p0_dSeats := i_p0_dSeats) (i_p0_dStirs := i_p0_dStirs) (i_p0_told := i_p0_told) (i_p0_highest := i_p0_highest) (i_p0_taped := i_p0_taped) (i_p0_pos := z1) (i_p0_from := z3) (i_p0_sort := i_p0_sort) (i_p0_value := i_p0_value) (i_p0_fault := i_p0_fault) (i_p0_wrongAt := i_p0_wrongAt) (i_p0_torn := i_p0_torn) (v_p0_tape := v_p0_tape) (x1 := z1) (r := z4) (hf := hcall)) (cwV 1 hts gX12_nextToken_X12_look rfl rfl rfl (by decide +kernel) ⟨Nat.le_of_ble_eq_true rfl, Nat.le_of_ble_eq_true rfl⟩) (preG_V (ci := 12) (hP.sub [0, 1] rfl) (hD.sub [0, 1] rfl rfl) hK rfl rfl) rfl rfl hl.1 rfl (lv_room (Nat.le_of_ble_eq_true rfl)) dX12_nextToken_47 ⟨Nat.le_of_ble_eq_true rfl, Nat.le_of_ble_eq_true rfl⟩) hP hD hS hA [0, 1] [] [0, 1] rfl rfl rfl (by decide) rfl rfl rfl (fun H locs hP hD hS => ?_)
      clear hcall
      refine lv_topi (fun z5 ez => ?_)
      replace hf := bnd_s hf ez
      clear ez
      refine lv_istore_n (lv' := [(1, .int z5), (0, .ref a_p0)]) hx hb dX12_nextToken_50 rfl hl (by decide) rfl (fun ls hl => ?_)
      refine lv_iload_n hx hb dX12_nextToken_51 rfl (lv_at hl 0 rfl) ?_
      refine lv_if_ge (tgt := 63) hx hb dX12_nextToken_52 (by decide) (fun cc => ?_) (fun cc => ?_)
      ·
        replace hf := ite_t cc hf
        clear cc
        refine lv_iload_n hx hb dX12_nextToken_63 rfl (lv_at hl 0 rfl) ?_
        refine lv_i2l hx hb dX12_nextToken_64 rfl ?_
        refine lv_ldc2 (v := (97 : Int64)) hx hb hown (hts _ mwX12_nextToken_4) dX12_nextToken_65 ?_
        refine lv_ldc2 (v := (122 : Int64)) hx hb hown (hts _ mwX12_nextToken_5) dX12_nextToken_68 ?_
        have hq := bd1_s hf
        clear hf
        obtain ⟨z6, hcall, hf⟩ := hq
        refine gcI (ws' := [(a_p0, .inr (12, [.ref a_p0_st, .ref a_p0_isKept, .int i_p0_seats, .int i_p0_stirs, .ref a_p0_brings, .ref a_p0_need, .ref a_p0_draft, .int i_p0_dSeats, .int i_p0_dStirs, .ref a_p0_dStir, .ref a_p0_dNeed, .int i_p0_told, .int i_p0_highest, .ref a_p0_tape, .int i_p0_taped, .int z1, .int z3, .int i_p0_sort, .int i_p0_value, .int i_p0_fault, .int i_p0_wrongAt, .ref a_p0_places, .ref a_p0_stirred, .ref a_p0_ways, .ref a_p0_waysThen, .ref a_p0_stays, .ref a_p0_fewest, .ref a_p0_bowls, .ref a_p0_has, .ref a_p0_goesOn, .ref a_p0_isThere, .ref a_p0_isThereThen, .ref a_p0_bestRow, .ref a_p0_lanes, .ref a_p0_sizes, .ref a_p0_cells, .int i_p0_torn])), (a_p0_tape, .inl (G 1, 320, .inl v_p0_tape))]) (va_runS (As := [.long (z5).toInt64, .long (97 : Int64), .long (122 : Int64)]) (rest := []) ⟨hx, hb, hml, hown, hts⟩ (c_X12_in (l := l) (D := D) (G := G) (sz := H.size) (x0 := (z5).toInt64) (x2 := (97 : Int64)) (x4 := (122 : Int64)) (r := z6) (hf := hcall)) (va_cwS 3 hts gX12_nextToken_X12_in rfl rfl rfl (by decide +kernel) ⟨Nat.le_of_ble_eq_true rfl, Nat.le_of_ble_eq_true rfl⟩) (preG_S (hP.sub [] rfl) (hD.sub [] rfl rfl) hK) rfl rfl hl.1 rfl (lv_room (Nat.le_of_ble_eq_true rfl)) dX12_nextToken_71 ⟨Nat.le_of_ble_eq_true rfl, Nat.le_of_ble_eq_true rfl⟩) hP hD hS hA [] [0, 1] [0, 1] rfl rfl rfl (by decide) rfl rfl rfl (fun H locs hP hD hS => ?_)
        clear hcall
        refine lv_if_eq (tgt := 116) hx hb dX12_nextToken_74 (by decide) (fun cc => ?_) (fun cc => ?_)
        ·
          replace hf := ite_t cc hf
          clear cc
          refine lv_iload_n hx hb dX12_nextToken_116 rfl (lv_at hl 0 rfl) ?_
          refine lv_i2l hx hb dX12_nextToken_117 rfl ?_
          refine lv_ldc2 (v := (48 : Int64)) hx hb hown (hts _ mwX12_nextToken_6) dX12_nextToken_118 ?_
          refine lv_ldc2 (v := (57 : Int64)) hx hb hown (hts _ mwX12_nextToken_7) dX12_nextToken_121 ?_
          have hq := bd1_s hf
          clear hf
          obtain ⟨z7, hcall, hf⟩ := hq
          refine gcI (ws' := [(a_p0, .inr (12, [.ref a_p0_st, .ref a_p0_isKept, .int i_p0_seats, .int i_p0_stirs, .ref a_p0_brings, .ref a_p0_need, .ref a_p0_draft, .int i_p0_dSeats, .int i_p0_dStirs, .ref a_p0_dStir, .ref a_p0_dNeed, .int i_p0_told, .int i_p0_highest, .ref a_p0_tape, .int i_p0_taped, .int z1, .int z3, .int i_p0_sort, .int i_p0_value, .int i_p0_fault, .int i_p0_wrongAt, .ref a_p0_places, .ref a_p0_stirred, .ref a_p0_ways, .ref a_p0_waysThen, .ref a_p0_stays, .ref a_p0_fewest, .ref a_p0_bowls, .ref a_p0_has, .ref a_p0_goesOn, .ref a_p0_isThere, .ref a_p0_isThereThen, .ref a_p0_bestRow, .ref a_p0_lanes, .ref a_p0_sizes, .ref a_p0_cells, .int i_p0_torn])), (a_p0_tape, .inl (G 1, 320, .inl v_p0_tape))]) (va_runS (As := [.long (z5).toInt64, .long (48 : Int64), .long (57 : Int64)]) (rest := []) ⟨hx, hb, hml, hown, hts⟩ (c_X12_in (l := l) (D := D) (G := G) (sz := H.size) (x0 := (z5).toInt64) (x2 := (48 : Int64)) (x4 := (57 : Int64)) (r := z7) (hf := hcall)) (va_cwS 3 hts gX12_nextToken_X12_in rfl rfl rfl (by decide +kernel) ⟨Nat.le_of_ble_eq_true rfl, Nat.le_of_ble_eq_true rfl⟩) (preG_S (hP.sub [] rfl) (hD.sub [] rfl rfl) hK) rfl rfl hl.1 rfl (lv_room (Nat.le_of_ble_eq_true rfl)) dX12_nextToken_124 ⟨Nat.le_of_ble_eq_true rfl, Nat.le_of_ble_eq_true rfl⟩) hP hD hS hA [] [0, 1] [0, 1] rfl rfl rfl (by decide) rfl rfl rfl (fun H locs hP hD hS => ?_)
          clear hcall
          refine lv_if_eq (tgt := 243) hx hb dX12_nextToken_127 (by decide) (fun cc => ?_) (fun cc => ?_)
          ·
            replace hf := ite_t cc hf
            clear cc
            refine lv_aload_n hx hb dX12_nextToken_243 rfl (lv_at hl 1 rfl) ?_
            refine lv_iconst (v := (3 : Int32)) hx hb dX12_nextToken_244 (by decide) ?_
            refine lv_topi (fun z8 ez => ?_)
            replace hf := bnd_s hf ez
            clear ez
            refine va_put (D := D) (ci := 12) (v := .int z8) (ty := .int) (C := RX12) (T := TX12) (N := 37) hx hb hts inX12_nextToken_X12 tyX12 tyX12_ok nmX12 hown hK hP hD hS 0 rfl rfl 17 (by decide) (hts _ mwX12_nextToken_8) (fun _ h9 => h9) rfl (by decide +kernel) rfl rfl (Nat.le_of_ble_eq_true rfl) dX12_nextToken_245 (fun H locs hP hD hS => ?_)
            have hP : va_P D vwCl [(a_p0, .inr (12, [.ref a_p0_st, .ref a_p0_isKept, .int i_p0_seats, .int i_p0_stirs, .ref a_p0_brings, .ref a_p0_need, .ref a_p0_draft, .int i_p0_dSeats, .int i_p0_dStirs, .ref a_p0_dStir, .ref a_p0_dNeed, .int i_p0_told, .int i_p0_highest, .ref a_p0_tape, .int i_p0_taped, .int z1, .int z3, .int z8, .int i_p0_value, .int i_p0_fault, .int i_p0_wrongAt, .ref a_p0_places, .ref a_p0_stirred, .ref a_p0_ways, .ref a_p0_waysThen, .ref a_p0_stays, .ref a_p0_fewest, .ref a_p0_bowls, .ref a_p0_has, .ref a_p0_goesOn, .ref a_p0_isThere, .ref a_p0_isThereThen, .ref a_p0_bestRow, .ref a_p0_lanes, .ref a_p0_sizes, .ref a_p0_cells, .int i_p0_torn])), (a_p0_tape, .inl (G 1, 320, .inl v_p0_tape))] H := hP
            have hD : va_D A [(a_p0, .inr (12, [.ref a_p0_st, .ref a_p0_isKept, .int i_p0_seats, .int i_p0_stirs, .ref a_p0_brings, .ref a_p0_need, .ref a_p0_draft, .int i_p0_dSeats, .int i_p0_dStirs, .ref a_p0_dStir, .ref a_p0_dNeed, .int i_p0_told, .int i_p0_highest, .ref a_p0_tape, .int i_p0_taped, .int z1, .int z3, .int z8, .int i_p0_value, .int i_p0_fault, .int i_p0_wrongAt, .ref a_p0_places, .ref a_p0_stirred, .ref a_p0_ways, .ref a_p0_waysThen, .ref a_p0_stays, .ref a_p0_fewest, .ref a_p0_bowls, .ref a_p0_has, .ref a_p0_goesOn, .ref a_p0_isThere, .ref a_p0_isThereThen, .ref a_p0_bestRow, .ref a_p0_lanes, .ref a_p0_sizes, .ref a_p0_cells, .int i_p0_torn])), (a_p0_tape, .inl (G 1, 320, .inl v_p0_tape))] := hD
            refine lv_aload_n hx hb dX12_nextToken_248 rfl (lv_at hl 1 rfl) ?_
            refine lv_iload_n hx hb dX12_nextToken_249 rfl (lv_at hl 0 rfl) ?_
            refine lv_bipush (v := (59 : Int32)) hx hb dX12_nextToken_250 (by decide) ?_
            have hq := jn_i hf
            clear hf
            obtain ⟨J10, eJ10, hf⟩ := hq
            have hJ10 : ∀ (z9 : Int32) (ls : Array Slot) (H : Heap) (locs : List Loc), lv_has ls 2 [(0, .ref a_p0)] → va_P D vwCl [(a_p0, .inr (12, [.ref a_p0_st, .ref a_p0_isKept, .int i_p0_seats, .int i_p0_stirs, .ref a_p0_brings, .ref a_p0_need, .ref a_p0_draft, .int i_p0_dSeats, .int i_p0_dStirs, .ref a_p0_dStir, .ref a_p0_dNeed, .int i_p0_told, .int i_p0_highest, .ref a_p0_tape, .int i_p0_taped, .int z1, .int z3, .int z8, .int i_p0_value, .int i_p0_fault, .int i_p0_wrongAt, .ref a_p0_places, .ref a_p0_stirred, .ref a_p0_ways, .ref a_p0_waysThen, .ref a_p0_stays, .ref a_p0_fewest, .ref a_p0_bowls, .ref a_p0_has, .ref a_p0_goesOn, .ref a_p0_isThere, .ref a_p0_isThereThen, .ref a_p0_bestRow, .ref a_p0_lanes, .ref a_p0_sizes, .ref a_p0_cells, .int i_p0_torn])), (a_p0_tape, .inl (G 1, 320, .inl v_p0_tape))] H → va_D A [(a_p0, .inr (12, [.ref a_p0_st, .ref a_p0_isKept, .int i_p0_seats, .int i_p0_stirs, .ref a_p0_brings, .ref a_p0_need, .ref a_p0_draft, .int i_p0_dSeats, .int i_p0_dStirs, .ref a_p0_dStir, .ref a_p0_dNeed, .int i_p0_told, .int i_p0_highest, .ref a_p0_tape, .int i_p0_taped, .int z1, .int z3, .int z8, .int i_p0_value, .int i_p0_fault, .int i_p0_wrongAt, .ref a_p0_places, .ref a_p0_stirred, .ref a_p0_ways, .ref a_p0_waysThen, .ref a_p0_stays, .ref a_p0_fewest, .ref a_p0_bowls, .ref a_p0_has, .ref a_p0_goesOn, .ref a_p0_isThere, .ref a_p0_isThereThen, .ref a_p0_bestRow, .ref a_p0_lanes, .ref a_p0_sizes, .ref a_p0_cells, .int i_p0_torn])), (a_p0_tape, .inl (G 1, 320, .inl v_p0_tape))] → va_S A s.heap H locs → J10 z9 = some (o_i_p0_pos, o_i_p0_from, o_i_p0_sort, o_i_p0_value, o_i_p0_fault, o_i_p0_wrongAt) → W p l e rm_X12_nextToken s m ([.ref a_p0] : List Value).toArray below meth c H locs 0 0 Q (F0 m 260 ls [.int z9, .ref a_p0]) := by
              clear hf hl hP hD hS
              intro z9 ls H locs hl hP hD hS hf
              replace hf := jn1_s eJ10 hf
              refine lv_iconst (v := (1 : Int32)) hx hb dX12_nextToken_260 (by decide) ?_
              have hq := bd2_s hf
              clear hf
              obtain ⟨z11, z12, hcall, hf⟩ := hq
              refine gcV (ws' := [(a_p0, .inr (12, [.ref a_p0_st, .ref a_p0_isKept, .int i_p0_seats, .int i_p0_stirs, .ref a_p0_brings, .ref a_p0_need, .ref a_p0_draft, .int i_p0_dSeats, .int i_p0_dStirs, .ref a_p0_dStir, .ref a_p0_dNeed, .int i_p0_told, .int i_p0_highest, .ref a_p0_tape, .int i_p0_taped, .int z1, .int z3, .int z8, .int i_p0_value, .int z11, .int z12, .ref a_p0_places, .ref a_p0_stirred, .ref a_p0_ways, .ref a_p0_waysThen, .ref a_p0_stays, .ref a_p0_fewest, .ref a_p0_bowls, .ref a_p0_has, .ref a_p0_goesOn, .ref a_p0_isThere, .ref a_p0_isThereThen, .ref a_p0_bestRow, .ref a_p0_lanes, .ref a_p0_sizes, .ref a_p0_cells, .int i_p0_torn])), (a_p0_tape, .inl (G 1, 320, .inl v_p0_tape))]) (va_runV (As := [.int z9, .int (1 : Int32)]) (rest := []) ⟨hx, hb, hml, hown, hts⟩ (c_X12_needs (l := l) (D := D) (G := G) (sz := H.size) (a_p0 := a_p0) (a_p0_st := a_p0_st) (a_p0_isKept := a_p0_isKept) (a_p0_brings := a_p0_brings) (a_p0_need := a_p0_need) (a_p0_draft := a_p0_draft) (a_p0_dStir := a_p0_dStir) (a_p0_dNeed := a_p0_dNeed) (a_p0_tape := a_p0_tape) (a_p0_places := a_p0_places) (a_p0_stirred := a_p0_stirred) (a_p0_ways := a_p0_ways) (a_p0_waysThen := a_p0_waysThen) (a_p0_stays := a_p0_stays) (a_p0_fewest := a_p0_fewest) (a_p0_bowls := a_p0_bowls) (a_p0_has := a_p0_has) (a_p0_goesOn := a_p0_goesOn) (a_p0_isThere := a_p0_isThere) (a_p0_isThereThen := a_p0_isThereThen) (a_p0_bestRow := a_p0_bestRow) (a_p0_lanes := a_p0_lanes) (a_p0_sizes := a_p0_sizes) (a_p0_cells := a_p0_cells) (i_p0_seats := i_p0_seats) (i_p0_stirs := i_p0_stirs) (i_p0_dSeats := i_p0_dSeats) (i_p0_dStirs := i_p0_dStirs) (i_p0_told := i_p0_told) (i_p0_highest := i_p0_highest) (i_p0_taped := i_p0_taped) (i_p0_pos := z1) (i_p0_from := z3) (i_p0_sort := z8) (i_p0_value := i_p0_value) (i_p0_fault := i_p0_fault) (i_p0_wrongAt := i_p0_wrongAt) (i_p0_torn := i_p0_torn) (x1 := z9) (x2 := (1 : Int32)) (o_i_p0_fault := z11) (o_i_p0_wrongAt := z12) (hf := hcall)) (cwV 2 hts gX12_nextToken_X12_needs rfl rfl rfl (by decide +kernel) ⟨Nat.le_of_ble_eq_true rfl, Nat.le_of_ble_eq_true rfl⟩) (preG_V (ci := 12) (hP.sub [0] rfl) (hD.sub [0] rfl rfl) hK rfl rfl) rfl rfl hl.1 rfl (lv_room (Nat.le_of_ble_eq_true rfl)) dX12_nextToken_261 ⟨Nat.le_of_ble_eq_true rfl, Nat.le_of_ble_eq_true rfl⟩) hP hD hS hA [0] [1] [1, 0] rfl rfl rfl (by decide) rfl rfl rfl (fun H locs hP hD hS => ?_)
              clear hcall
              refine lv_aload_n hx hb dX12_nextToken_264 rfl (lv_at hl 0 rfl) ?_
              refine lv_dup hx hb dX12_nextToken_265 rfl ?_
              refine va_get (D := D) (ci := 12) (v := .int z1) (C := RX12) (T := TX12) (N := 37) hx hb hts inX12_nextToken_X12 hown hK hP 0 rfl rfl 15 (by decide) (hts _ mwX12_nextToken_2) (fun _ h9 => h9) rfl dX12_nextToken_266 ?_
              refine lv_iconst (v := (1 : Int32)) hx hb dX12_nextToken_269 (by decide) ?_
              refine lv_iadd hx hb dX12_nextToken_270 ?_
              refine lv_topi (fun z13 ez => ?_)
              replace hf := bnd_s hf ez
              clear ez
              refine va_put (D := D) (ci := 12) (v := .int z13) (ty := .int) (C := RX12) (T := TX12) (N := 37) hx hb hts inX12_nextToken_X12 tyX12 tyX12_ok nmX12 hown hK hP hD hS 0 rfl rfl 15 (by decide) (hts _ mwX12_nextToken_2) (fun _ h9 => h9) rfl (by decide +kernel) rfl rfl (Nat.le_of_ble_eq_true rfl) dX12_nextToken_271 (fun H locs hP hD hS => ?_)
              have hP : va_P D vwCl [(a_p0, .inr (12, [.ref a_p0_st, .ref a_p0_isKept, .int i_p0_seats, .int i_p0_stirs, .ref a_p0_brings, .ref a_p0_need, .ref a_p0_draft, .int i_p0_dSeats, .int i_p0_dStirs, .ref a_p0_dStir, .ref a_p0_dNeed, .int i_p0_told, .int i_p0_highest, .ref a_p0_tape, .int i_p0_taped, .int z13, .int z3, .int z8, .int i_p0_value, .int z11, .int z12, .ref a_p0_places, .ref a_p0_stirred, .ref a_p0_ways, .ref a_p0_waysThen, .ref a_p0_stays, .ref a_p0_fewest, .ref a_p0_bowls, .ref a_p0_has, .ref a_p0_goesOn, .ref a_p0_isThere, .ref a_p0_isThereThen, .ref a_p0_bestRow, .ref a_p0_lanes, .ref a_p0_sizes, .ref a_p0_cells, .int i_p0_torn])), (a_p0_tape, .inl (G 1, 320, .inl v_p0_tape))] H := hP
              have hD : va_D A [(a_p0, .inr (12, [.ref a_p0_st, .ref a_p0_isKept, .int i_p0_seats, .int i_p0_stirs, .ref a_p0_brings, .ref a_p0_need, .ref a_p0_draft, .int i_p0_dSeats, .int i_p0_dStirs, .ref a_p0_dStir, .ref a_p0_dNeed, .int i_p0_told, .int i_p0_highest, .ref a_p0_tape, .int i_p0_taped, .int z13, .int z3, .int z8, .int i_p0_value, .int z11, .int z12, .ref a_p0_places, .ref a_p0_stirred, .ref a_p0_ways, .ref a_p0_waysThen, .ref a_p0_stays, .ref a_p0_fewest, .ref a_p0_bowls, .ref a_p0_has, .ref a_p0_goesOn, .ref a_p0_isThere, .ref a_p0_isThereThen, .ref a_p0_bestRow, .ref a_p0_lanes, .ref a_p0_sizes, .ref a_p0_cells, .int i_p0_torn])), (a_p0_tape, .inl (G 1, 320, .inl v_p0_tape))] := hD
              obtain ⟨rfl, rfl, rfl, rfl, rfl, rfl⟩ := ou6 hf
              rw [hQ]
              exact W.vret hx hb hr (fun t ht hW => ⟨⟨(), rfl, trivial, by rw [ht]; exact hP, va_K.moved hW.alike hK, hD⟩, hS.F ht⟩) hS.2.2 dX12_nextToken_274
            refine lv_icmp_ne (tgt := 259) hx hb dX12_nextToken_252 (by decide) (fun cc => ?_) (fun cc => ?_)
            ·
              replace hf := ite_f cc hf
              clear cc
              refine lv_iconst (v := (0 : Int32)) hx hb dX12_nextToken_259 (by decide) ?_
              exact hJ10 _ _ _ _ (lv_sub hl [1] rfl) hP hD hS hf
            ·
              replace hf := ite_t cc hf
              clear cc
              refine lv_iconst (v := (1 : Int32)) hx hb dX12_nextToken_255 (by decide) ?_
              refine lv_goto (tgt := 260) hx hb dX12_nextToken_256 (by decide) ?_
              exact hJ10 _ _ _ _ (lv_sub hl [1] rfl) hP hD hS hf
          ·
            replace hf := ite_f cc hf
            clear cc
            refine lv_aload_n hx hb dX12_nextToken_130 rfl (lv_at hl 1 rfl) ?_
            refine lv_iconst (v := (2 : Int32)) hx hb dX12_nextToken_131 (by decide) ?_
            refine lv_topi (fun z14 ez => ?_)
            replace hf := bnd_s hf ez
            clear ez
            refine va_put (D := D) (ci := 12) (v := .int z14) (ty := .int) (C := RX12) (T := TX12) (N := 37) hx hb hts inX12_nextToken_X12 tyX12 tyX12_ok nmX12 hown hK hP hD hS 0 rfl rfl 17 (by decide) (hts _ mwX12_nextToken_8) (fun _ h9 => h9) rfl (by decide +kernel) rfl rfl (Nat.le_of_ble_eq_true rfl) dX12_nextToken_132 (fun H locs hP hD hS => ?_)
            have hP : va_P D vwCl [(a_p0, .inr (12, [.ref a_p0_st, .ref a_p0_isKept, .int i_p0_seats, .int i_p0_stirs, .ref a_p0_brings, .ref a_p0_need, .ref a_p0_draft, .int i_p0_dSeats, .int i_p0_dStirs, .ref a_p0_dStir, .ref a_p0_dNeed, .int i_p0_told, .int i_p0_highest, .ref a_p0_tape, .int i_p0_taped, .int z1, .int z3, .int z14, .int i_p0_value, .int i_p0_fault, .int i_p0_wrongAt, .ref a_p0_places, .ref a_p0_stirred, .ref a_p0_ways, .ref a_p0_waysThen, .ref a_p0_stays, .ref a_p0_fewest, .ref a_p0_bowls, .ref a_p0_has, .ref a_p0_goesOn, .ref a_p0_isThere, .ref a_p0_isThereThen, .ref a_p0_bestRow, .ref a_p0_lanes, .ref a_p0_sizes, .ref a_p0_cells, .int i_p0_torn])), (a_p0_tape, .inl (G 1, 320, .inl v_p0_tape))] H := hP
            have hD : va_D A [(a_p0, .inr (12, [.ref a_p0_st, .ref a_p0_isKept, .int i_p0_seats, .int i_p0_stirs, .ref a_p0_brings, .ref a_p0_need, .ref a_p0_draft, .int i_p0_dSeats, .int i_p0_dStirs, .ref a_p0_dStir, .ref a_p0_dNeed, .int i_p0_told, .int i_p0_highest, .ref a_p0_tape, .int i_p0_taped, .int z1, .int z3, .int z14, .int i_p0_value, .int i_p0_fault, .int i_p0_wrongAt, .ref a_p0_places, .ref a_p0_stirred, .ref a_p0_ways, .ref a_p0_waysThen, .ref a_p0_stays, .ref a_p0_fewest, .ref a_p0_bowls, .ref a_p0_has, .ref a_p0_goesOn, .ref a_p0_isThere, .ref a_p0_isThereThen, .ref a_p0_bestRow, .ref a_p0_lanes, .ref a_p0_sizes, .ref a_p0_cells, .int i_p0_torn])), (a_p0_tape, .inl (G 1, 320, .inl v_p0_tape))] := hD
            refine lv_aload_n hx hb dX12_nextToken_135 rfl (lv_at hl 1 rfl) ?_
            refine lv_iconst (v := (0 : Int32)) hx hb dX12_nextToken_136 (by decide) ?_
            refine lv_topi (fun z15 ez => ?_)
            replace hf := bnd_s hf ez
            clear ez
            refine va_put (D := D) (ci := 12) (v := .int z15) (ty := .int) (C := RX12) (T := TX12) (N := 37) hx hb hts inX12_nextToken_X12 tyX12 tyX12_ok nmX12 hown hK hP hD hS 0 rfl rfl 18 (by decide) (hts _ mwX12_nextToken_9) (fun _ h9 => h9) rfl (by decide +kernel) rfl rfl (Nat.le_of_ble_eq_true rfl) dX12_nextToken_137 (fun H locs hP hD hS => ?_)
            have hP : va_P D vwCl [(a_p0, .inr (12, [.ref a_p0_st, .ref a_p0_isKept, .int i_p0_seats, .int i_p0_stirs, .ref a_p0_brings, .ref a_p0_need, .ref a_p0_draft, .int i_p0_dSeats, .int i_p0_dStirs, .ref a_p0_dStir, .ref a_p0_dNeed, .int i_p0_told, .int i_p0_highest, .ref a_p0_tape, .int i_p0_taped, .int z1, .int z3, .int z14, .int z15, .int i_p0_fault, .int i_p0_wrongAt, .ref a_p0_places, .ref a_p0_stirred, .ref a_p0_ways, .ref a_p0_waysThen, .ref a_p0_stays, .ref a_p0_fewest, .ref a_p0_bowls, .ref a_p0_has, .ref a_p0_goesOn, .ref a_p0_isThere, .ref a_p0_isThereThen, .ref a_p0_bestRow, .ref a_p0_lanes, .ref a_p0_sizes, .ref a_p0_cells, .int i_p0_torn])), (a_p0_tape, .inl (G 1, 320, .inl v_p0_tape))] H := hP
            have hD : va_D A [(a_p0, .inr (12, [.ref a_p0_st, .ref a_p0_isKept, .int i_p0_seats, .int i_p0_stirs, .ref a_p0_brings, .ref a_p0_need, .ref a_p0_draft, .int i_p0_dSeats, .int i_p0_dStirs, .ref a_p0_dStir, .ref a_p0_dNeed, .int i_p0_told, .int i_p0_highest, .ref a_p0_tape, .int i_p0_taped, .int z1, .int z3, .int z14, .int z15, .int i_p0_fault, .int i_p0_wrongAt, .ref a_p0_places, .ref a_p0_stirred, .ref a_p0_ways, .ref a_p0_waysThen, .ref a_p0_stays, .ref a_p0_fewest, .ref a_p0_bowls, .ref a_p0_has, .ref a_p0_goesOn, .ref a_p0_isThere, .ref a_p0_isThereThen, .ref a_p0_bestRow, .ref a_p0_lanes, .ref a_p0_sizes, .ref a_p0_cells, .int i_p0_torn])), (a_p0_tape, .inl (G 1, 320, .inl v_p0_tape))] := hD
            have hq := jn_i hf
            clear hf
            obtain ⟨J18, eJ18, hf⟩ := hq
            have hJ18 : ∀ (z16 : Int32) (z17 : Int32) (ls : Array Slot) (H : Heap) (locs : List Loc), lv_has ls 2 [(0, .ref a_p0)] → va_P D vwCl [(a_p0, .inr (12, [.ref a_p0_st, .ref a_p0_isKept, .int i_p0_seats, .int i_p0_stirs, .ref a_p0_brings, .ref a_p0_need, .ref a_p0_draft, .int i_p0_dSeats, .int i_p0_dStirs, .ref a_p0_dStir, .ref a_p0_dNeed, .int i_p0_told, .int i_p0_highest, .ref a_p0_tape, .int i_p0_taped, .int z16, .int z3, .int z14, .int z17, .int i_p0_fault, .int i_p0_wrongAt, .ref a_p0_places, .ref a_p0_stirred, .ref a_p0_ways, .ref a_p0_waysThen, .ref a_p0_stays, .ref a_p0_fewest, .ref a_p0_bowls, .ref a_p0_has, .ref a_p0_goesOn, .ref a_p0_isThere, .ref a_p0_isThereThen, .ref a_p0_bestRow, .ref a_p0_lanes, .ref a_p0_sizes, .ref a_p0_cells, .int i_p0_torn])), (a_p0_tape, .inl (G 1, 320, .inl v_p0_tape))] H → va_D A [(a_p0, .inr (12, [.ref a_p0_st, .ref a_p0_isKept, .int i_p0_seats, .int i_p0_stirs, .ref a_p0_brings, .ref a_p0_need, .ref a_p0_draft, .int i_p0_dSeats, .int i_p0_dStirs, .ref a_p0_dStir, .ref a_p0_dNeed, .int i_p0_told, .int i_p0_highest, .ref a_p0_tape, .int i_p0_taped, .int z16, .int z3, .int z14, .int z17, .int i_p0_fault, .int i_p0_wrongAt, .ref a_p0_places, .ref a_p0_stirred, .ref a_p0_ways, .ref a_p0_waysThen, .ref a_p0_stays, .ref a_p0_fewest, .ref a_p0_bowls, .ref a_p0_has, .ref a_p0_goesOn, .ref a_p0_isThere, .ref a_p0_isThereThen, .ref a_p0_bestRow, .ref a_p0_lanes, .ref a_p0_sizes, .ref a_p0_cells, .int i_p0_torn])), (a_p0_tape, .inl (G 1, 320, .inl v_p0_tape))] → va_S A s.heap H locs → J18 z16 z17 = some (o_i_p0_pos, o_i_p0_from, o_i_p0_sort, o_i_p0_value, o_i_p0_fault, o_i_p0_wrongAt) → W p l e rm_X12_nextToken s m ([.ref a_p0] : List Value).toArray below meth c H locs 0 0 Q (F0 m 217 ls []) := by
              clear hf hl hP hD hS
              intro z16 z17 ls H locs hl hP hD hS hf
              replace hf := jn2_s eJ18 hf
              refine lv_aload_n hx hb dX12_nextToken_217 rfl (lv_at hl 0 rfl) ?_
              refine lv_aload_n hx hb dX12_nextToken_218 rfl (lv_at hl 0 rfl) ?_
              refine va_get (D := D) (ci := 12) (v := .int z16) (C := RX12) (T := TX12) (N := 37) hx hb hts inX12_nextToken_X12 hown hK hP 0 rfl rfl 15 (by decide) (hts _ mwX12_nextToken_2) (fun _ h9 => h9) rfl dX12_nextToken_219 ?_
              refine lv_aload_n hx hb dX12_nextToken_222 rfl (lv_at hl 0 rfl) ?_
              refine va_get (D := D) (ci := 12) (v := .int z3) (C := RX12) (T := TX12) (N := 37) hx hb hts inX12_nextToken_X12 hown hK hP 0 rfl rfl 16 (by decide) (hts _ mwX12_nextToken_3) (fun _ h9 => h9) rfl dX12_nextToken_223 ?_
              refine lv_isub hx hb dX12_nextToken_226 ?_
              refine lv_iconst (v := (2 : Int32)) hx hb dX12_nextToken_227 (by decide) ?_
              refine lv_icmp_gt (tgt := 235) hx hb dX12_nextToken_228 (by decide) (fun cc => ?_) (fun cc => ?_)
              ·
                replace hf := ite_t cc hf
                clear cc
                refine lv_iconst (v := (0 : Int32)) hx hb dX12_nextToken_235 (by decide) ?_
                refine lv_iconst (v := (1 : Int32)) hx hb dX12_nextToken_236 (by decide) ?_
                have hq := bd2_s hf
                clear hf
                obtain ⟨z19, z20, hcall, hf⟩ := hq
                refine gcV (ws' := [(a_p0, .inr (12, [.ref a_p0_st, .ref a_p0_isKept, .int i_p0_seats, .int i_p0_stirs, .ref a_p0_brings, .ref a_p0_need, .ref a_p0_draft, .int i_p0_dSeats, .int i_p0_dStirs, .ref a_p0_dStir, .ref a_p0_dNeed, .int i_p0_told, .int i_p0_highest, .ref a_p0_tape, .int i_p0_taped, .int z16, .int z3, .int z14, .int z17, .int z19, .int z20, .ref a_p0_places, .ref a_p0_stirred, .ref a_p0_ways, .ref a_p0_waysThen, .ref a_p0_stays, .ref a_p0_fewest, .ref a_p0_bowls, .ref a_p0_has, .ref a_p0_goesOn, .ref a_p0_isThere, .ref a_p0_isThereThen, .ref a_p0_bestRow, .ref a_p0_lanes, .ref a_p0_sizes, .ref a_p0_cells, .int i_p0_torn])), (a_p0_tape, .inl (G 1, 320, .inl v_p0_tape))]) (va_runV (As := [.int (0 : Int32), .int (1 : Int32)]) (rest := []) ⟨hx, hb, hml, hown, hts⟩ (c_X12_needs (l := l) (D := D) (G := G) (sz := H.size) (a_p0 := a_p0) (a_p0_st := a_p0_st) (a_p0_isKept := a_p0_isKept) (a_p0_brings := a_p0_brings) (a_p0_need := a_p0_need) (a_p0_draft := a_p0_draft) (a_p0_dStir := a_p0_dStir) (a_p0_dNeed := a_p0_dNeed) (a_p0_tape := a_p0_tape) (a_p0_places := a_p0_places) (a_p0_stirred := a_p0_stirred) (a_p0_ways := a_p0_ways) (a_p0_waysThen := a_p0_waysThen) (a_p0_stays := a_p0_stays) (a_p0_fewest := a_p0_fewest) (a_p0_bowls := a_p0_bowls) (a_p0_has := a_p0_has) (a_p0_goesOn := a_p0_goesOn) (a_p0_isThere := a_p0_isThere) (a_p0_isThereThen := a_p0_isThereThen) (a_p0_bestRow := a_p0_bestRow) (a_p0_lanes := a_p0_lanes) (a_p0_sizes := a_p0_sizes) (a_p0_cells := a_p0_cells) (i_p0_seats := i_p0_seats) (i_p0_stirs := i_p0_stirs) (i_p0_dSeats := i_p0_dSeats) (i_p0_dStirs := i_p0_dStirs) (i_p0_told := i_p0_told) (i_p0_highest := i_p0_highest) (i_p0_taped := i_p0_taped) (i_p0_pos := z16) (i_p0_from := z3) (i_p0_sort := z14) (i_p0_value := z17) (i_p0_fault := i_p0_fault) (i_p0_wrongAt := i_p0_wrongAt) (i_p0_torn := i_p0_torn) (x1 := (0 : Int32)) (x2 := (1 : Int32)) (o_i_p0_fault := z19) (o_i_p0_wrongAt := z20) (hf := hcall)) (cwV 2 hts gX12_nextToken_X12_needs rfl rfl rfl (by decide +kernel) ⟨Nat.le_of_ble_eq_true rfl, Nat.le_of_ble_eq_true rfl⟩) (preG_V (ci := 12) (hP.sub [0] rfl) (hD.sub [0] rfl rfl) hK rfl rfl) rfl rfl hl.1 rfl (lv_room (Nat.le_of_ble_eq_true rfl)) dX12_nextToken_237 ⟨Nat.le_of_ble_eq_true rfl, Nat.le_of_ble_eq_true rfl⟩) hP hD hS hA [0] [1] [1, 0] rfl rfl rfl (by decide) rfl rfl rfl (fun H locs hP hD hS => ?_)
                clear hcall
                refine lv_goto (tgt := 274) hx hb dX12_nextToken_240 (by decide) ?_
                obtain ⟨rfl, rfl, rfl, rfl, rfl, rfl⟩ := ou6 hf
                rw [hQ]
                exact W.vret hx hb hr (fun t ht hW => ⟨⟨(), rfl, trivial, by rw [ht]; exact hP, va_K.moved hW.alike hK, hD⟩, hS.F ht⟩) hS.2.2 dX12_nextToken_274
              ·
                replace hf := ite_f cc hf
                clear cc
                refine lv_iconst (v := (1 : Int32)) hx hb dX12_nextToken_231 (by decide) ?_
                refine lv_goto (tgt := 236) hx hb dX12_nextToken_232 (by decide) ?_
                refine lv_iconst (v := (1 : Int32)) hx hb dX12_nextToken_236 (by decide) ?_
                have hq := bd2_s hf
                clear hf
                obtain ⟨z21, z22, hcall, hf⟩ := hq
                refine gcV (ws' := [(a_p0, .inr (12, [.ref a_p0_st, .ref a_p0_isKept, .int i_p0_seats, .int i_p0_stirs, .ref a_p0_brings, .ref a_p0_need, .ref a_p0_draft, .int i_p0_dSeats, .int i_p0_dStirs, .ref a_p0_dStir, .ref a_p0_dNeed, .int i_p0_told, .int i_p0_highest, .ref a_p0_tape, .int i_p0_taped, .int z16, .int z3, .int z14, .int z17, .int z21, .int z22, .ref a_p0_places, .ref a_p0_stirred, .ref a_p0_ways, .ref a_p0_waysThen, .ref a_p0_stays, .ref a_p0_fewest, .ref a_p0_bowls, .ref a_p0_has, .ref a_p0_goesOn, .ref a_p0_isThere, .ref a_p0_isThereThen, .ref a_p0_bestRow, .ref a_p0_lanes, .ref a_p0_sizes, .ref a_p0_cells, .int i_p0_torn])), (a_p0_tape, .inl (G 1, 320, .inl v_p0_tape))]) (va_runV (As := [.int (1 : Int32), .int (1 : Int32)]) (rest := []) ⟨hx, hb, hml, hown, hts⟩ (c_X12_needs (l := l) (D := D) (G := G) (sz := H.size) (a_p0 := a_p0) (a_p0_st := a_p0_st) (a_p0_isKept := a_p0_isKept) (a_p0_brings := a_p0_brings) (a_p0_need := a_p0_need) (a_p0_draft := a_p0_draft) (a_p0_dStir := a_p0_dStir) (a_p0_dNeed := a_p0_dNeed) (a_p0_tape := a_p0_tape) (a_p0_places := a_p0_places) (a_p0_stirred := a_p0_stirred) (a_p0_ways := a_p0_ways) (a_p0_waysThen := a_p0_waysThen) (a_p0_stays := a_p0_stays) (a_p0_fewest := a_p0_fewest) (a_p0_bowls := a_p0_bowls) (a_p0_has := a_p0_has) (a_p0_goesOn := a_p0_goesOn) (a_p0_isThere := a_p0_isThere) (a_p0_isThereThen := a_p0_isThereThen) (a_p0_bestRow := a_p0_bestRow) (a_p0_lanes := a_p0_lanes) (a_p0_sizes := a_p0_sizes) (a_p0_cells := a_p0_cells) (i_p0_seats := i_p0_seats) (i_p0_stirs := i_p0_stirs) (i_p0_dSeats := i_p0_dSeats) (i_p0_dStirs := i_p0_dStirs) (i_p0_told := i_p0_told) (i_p0_highest := i_p0_highest) (i_p0_taped := i_p0_taped) (i_p0_pos := z16) (i_p0_from := z3) (i_p0_sort := z14) (i_p0_value := z17) (i_p0_fault := i_p0_fault) (i_p0_wrongAt := i_p0_wrongAt) (i_p0_torn := i_p0_torn) (x1 := (1 : Int32)) (x2 := (1 : Int32)) (o_i_p0_fault := z21) (o_i_p0_wrongAt := z22) (hf := hcall)) (cwV 2 hts gX12_nextToken_X12_needs rfl rfl rfl (by decide +kernel) ⟨Nat.le_of_ble_eq_true rfl, Nat.le_of_ble_eq_true rfl⟩) (preG_V (ci := 12) (hP.sub [0] rfl) (hD.sub [0] rfl rfl) hK rfl rfl) rfl rfl hl.1 rfl (lv_room (Nat.le_of_ble_eq_true rfl)) dX12_nextToken_237 ⟨Nat.le_of_ble_eq_true rfl, Nat.le_of_ble_eq_true rfl⟩) hP hD hS hA [0] [1] [1, 0] rfl rfl rfl (by decide) rfl rfl rfl (fun H locs hP hD hS => ?_)
                clear hcall
                refine lv_goto (tgt := 274) hx hb dX12_nextToken_240 (by decide) ?_
                obtain ⟨rfl, rfl, rfl, rfl, rfl, rfl⟩ := ou6 hf
                rw [hQ]
                exact W.vret hx hb hr (fun t ht hW => ⟨⟨(), rfl, trivial, by rw [ht]; exact hP, va_K.moved hW.alike hK, hD⟩, hS.F ht⟩) hS.2.2 dX12_nextToken_274
            have hq := lq2_i hf
            clear hf
            obtain ⟨B25, eB25, NB25, hf⟩ := hq
            have hB25 : ∀ (n : Nat) (z23 : Int32) (z24 : Int32) (ls : Array Slot) (H : Heap) (locs : List Loc), lv_has ls 2 [(0, .ref a_p0)] → va_P D vwCl [(a_p0, .inr (12, [.ref a_p0_st, .ref a_p0_isKept, .int i_p0_seats, .int i_p0_stirs, .ref a_p0_brings, .ref a_p0_need, .ref a_p0_draft, .int i_p0_dSeats, .int i_p0_dStirs, .ref a_p0_dStir, .ref a_p0_dNeed, .int i_p0_told, .int i_p0_highest, .ref a_p0_tape, .int i_p0_taped, .int z23, .int z3, .int z14, .int z24, .int i_p0_fault, .int i_p0_wrongAt, .ref a_p0_places, .ref a_p0_stirred, .ref a_p0_ways, .ref a_p0_waysThen, .ref a_p0_stays, .ref a_p0_fewest, .ref a_p0_bowls, .ref a_p0_has, .ref a_p0_goesOn, .ref a_p0_isThere, .ref a_p0_isThereThen, .ref a_p0_bestRow, .ref a_p0_lanes, .ref a_p0_sizes, .ref a_p0_cells, .int i_p0_torn])), (a_p0_tape, .inl (G 1, 320, .inl v_p0_tape))] H → va_D A [(a_p0, .inr (12, [.ref a_p0_st, .ref a_p0_isKept, .int i_p0_seats, .int i_p0_stirs, .ref a_p0_brings, .ref a_p0_need, .ref a_p0_draft, .int i_p0_dSeats, .int i_p0_dStirs, .ref a_p0_dStir, .ref a_p0_dNeed, .int i_p0_told, .int i_p0_highest, .ref a_p0_tape, .int i_p0_taped, .int z23, .int z3, .int z14, .int z24, .int i_p0_fault, .int i_p0_wrongAt, .ref a_p0_places, .ref a_p0_stirred, .ref a_p0_ways, .ref a_p0_waysThen, .ref a_p0_stays, .ref a_p0_fewest, .ref a_p0_bowls, .ref a_p0_has, .ref a_p0_goesOn, .ref a_p0_isThere, .ref a_p0_isThereThen, .ref a_p0_bestRow, .ref a_p0_lanes, .ref a_p0_sizes, .ref a_p0_cells, .int i_p0_torn])), (a_p0_tape, .inl (G 1, 320, .inl v_p0_tape))] → va_S A s.heap H locs → lq2 B25 n z23 z24 = some (o_i_p0_pos, o_i_p0_from, o_i_p0_sort, o_i_p0_value, o_i_p0_fault, o_i_p0_wrongAt) → W p l e rm_X12_nextToken s m ([.ref a_p0] : List Value).toArray below meth c H locs 0 0 Q (F0 m 140 ls []) := by
              clear hf hl hP hD hS
              intro n
              induction n with
              | zero =>
                intro z23 z24 ls H locs hl hP hD hS hf
                exact (lq2_0 hf).elim
              | succ n ih140 =>
                intro z23 z24 ls H locs hl hP hD hS hf
                replace hf := lq2_s eB25 hf
                unfold B_X12_nextToken_140 at hf
                refine lv_aload_n hx hb dX12_nextToken_140 rfl (lv_at hl 0 rfl) ?_
                refine lv_aload_n hx hb dX12_nextToken_141 rfl (lv_at hl 0 rfl) ?_
                refine va_get (D := D) (ci := 12) (v := .int z23) (C := RX12) (T := TX12) (N := 37) hx hb hts inX12_nextToken_X12 hown hK hP 0 rfl rfl 15 (by decide) (hts _ mwX12_nextToken_2) (fun _ h9 => h9) rfl dX12_nextToken_142 ?_
                have hq := bd1_s hf
                clear hf
                obtain ⟨z26, hcall, hf⟩ := hq
                refine gcI (ws' := [(a_p0, .inr (12, [.ref a_p0_st, .ref a_p0_isKept, .int i_p0_seats, .int i_p0_stirs, .ref a_p0_brings, .ref a_p0_need, .ref a_p0_draft, .int i_p0_dSeats, .int i_p0_dStirs, .ref a_p0_dStir, .ref a_p0_dNeed, .int i_p0_told, .int i_p0_highest, .ref a_p0_tape, .int i_p0_taped, .int z23, .int z3, .int z14, .int z24, .int i_p0_fault, .int i_p0_wrongAt, .ref a_p0_places, .ref a_p0_stirred, .ref a_p0_ways, .ref a_p0_waysThen, .ref a_p0_stays, .ref a_p0_fewest, .ref a_p0_bowls, .ref a_p0_has, .ref a_p0_goesOn, .ref a_p0_isThere, .ref a_p0_isThereThen, .ref a_p0_bestRow, .ref a_p0_lanes, .ref a_p0_sizes, .ref a_p0_cells, .int i_p0_torn])), (a_p0_tape, .inl (G 1, 320, .inl v_p0_tape))]) (va_runV (As := [.int z23]) (rest := []) ⟨hx, hb, hml, hown, hts⟩ (c_X12_look (l := l) (D := D) (G := G) (sz := H.size) (a_p0 := a_p0) (a_p0_st := a_p0_st) (a_p0_isKept := a_p0_isKept) (a_p0_brings := a_p0_brings) (a_p0_need := a_p0_need) (a_p0_draft := a_p0_draft) (a_p0_dStir := a_p0_dStir) (a_p0_dNeed := a_p0_dNeed) (a_p0_tape := a_p0_tape) (a_p0_places := a_p0_places) (a_p0_stirred := a_p0_stirred) (a_p0_ways := a_p0_ways) (a_p0_waysThen := a_p0_waysThen) (a_p0_stays := a_p0_stays) (a_p0_fewest := a_p0_fewest) (a_p0_bowls := a_p0_bowls) (a_p0_has := a_p0_has) (a_p0_goesOn := a_p0_goesOn) (a_p0_isThere := a_p0_isThere) (a_p0_isThereThen := a_p0_isThereThen) (a_p0_bestRow := a_p0_bestRow) (a_p0_lanes := a_p0_lanes) (a_p0_sizes := a_p0_sizes) (a_p0_cells := a_p0_cells) (i_p0_seats := i_p0_seats) (i_p0_stirs := i_p0_stirs) (i_p0_dSeats := i_p0_dSeats) (i_p0_dStirs := i_p0_dStirs) (i_p0_told := i_p0_told) (i_p0_highest := i_p0_highest) (i_p0_taped := i_p0_taped) (i_p0_pos := z23) (i_p0_from := z3) (i_p0_sort := z14) (i_p0_value := z24) (i_p0_fault := i_p0_fault) (i_p0_wrongAt := i_p0_wrongAt) (i_p0_torn := i_p0_torn) (v_p0_tape := v_p0_tape) (x1 := z23) (r := z26) (hf := hcall)) (cwV 1 hts gX12_nextToken_X12_look rfl rfl rfl (by decide +kernel) ⟨Nat.le_of_ble_eq_true rfl, Nat.le_of_ble_eq_true rfl⟩) (preG_V (ci := 12) (hP.sub [0, 1] rfl) (hD.sub [0, 1] rfl rfl) hK rfl rfl) rfl rfl hl.1 rfl (lv_room (Nat.le_of_ble_eq_true rfl)) dX12_nextToken_145 ⟨Nat.le_of_ble_eq_true rfl, Nat.le_of_ble_eq_true rfl⟩) hP hD hS hA [0, 1] [] [0, 1] rfl rfl rfl (by decide) rfl rfl rfl (fun H locs hP hD hS => ?_)
                clear hcall
                refine lv_i2l hx hb dX12_nextToken_148 rfl ?_
                refine lv_ldc2 (v := (48 : Int64)) hx hb hown (hts _ mwX12_nextToken_6) dX12_nextToken_149 ?_
                refine lv_ldc2 (v := (57 : Int64)) hx hb hown (hts _ mwX12_nextToken_7) dX12_nextToken_152 ?_
                have hq := bd1_s hf
                clear hf
                obtain ⟨z27, hcall, hf⟩ := hq
                refine gcI (ws' := [(a_p0, .inr (12, [.ref a_p0_st, .ref a_p0_isKept, .int i_p0_seats, .int i_p0_stirs, .ref a_p0_brings, .ref a_p0_need, .ref a_p0_draft, .int i_p0_dSeats, .int i_p0_dStirs, .ref a_p0_dStir, .ref a_p0_dNeed, .int i_p0_told, .int i_p0_highest, .ref a_p0_tape, .int i_p0_taped, .int z23, .int z3, .int z14, .int z24, .int i_p0_fault, .int i_p0_wrongAt, .ref a_p0_places, .ref a_p0_stirred, .ref a_p0_ways, .ref a_p0_waysThen, .ref a_p0_stays, .ref a_p0_fewest, .ref a_p0_bowls, .ref a_p0_has, .ref a_p0_goesOn, .ref a_p0_isThere, .ref a_p0_isThereThen, .ref a_p0_bestRow, .ref a_p0_lanes, .ref a_p0_sizes, .ref a_p0_cells, .int i_p0_torn])), (a_p0_tape, .inl (G 1, 320, .inl v_p0_tape))]) (va_runS (As := [.long (z26).toInt64, .long (48 : Int64), .long (57 : Int64)]) (rest := []) ⟨hx, hb, hml, hown, hts⟩ (c_X12_in (l := l) (D := D) (G := G) (sz := H.size) (x0 := (z26).toInt64) (x2 := (48 : Int64)) (x4 := (57 : Int64)) (r := z27) (hf := hcall)) (va_cwS 3 hts gX12_nextToken_X12_in rfl rfl rfl (by decide +kernel) ⟨Nat.le_of_ble_eq_true rfl, Nat.le_of_ble_eq_true rfl⟩) (preG_S (hP.sub [] rfl) (hD.sub [] rfl rfl) hK) rfl rfl hl.1 rfl (lv_room (Nat.le_of_ble_eq_true rfl)) dX12_nextToken_155 ⟨Nat.le_of_ble_eq_true rfl, Nat.le_of_ble_eq_true rfl⟩) hP hD hS hA [] [0, 1] [0, 1] rfl rfl rfl (by decide) rfl rfl rfl (fun H locs hP hD hS => ?_)
                clear hcall
                refine lv_if_eq (tgt := 217) hx hb dX12_nextToken_158 (by decide) (fun cc => ?_) (fun cc => ?_)
                ·
                  replace hf := ite_t cc hf
                  clear cc
                  exact hJ18 _ _ _ _ _ (lv_sub hl [0] rfl) hP hD hS hf
                ·
                  replace hf := ite_f cc hf
                  clear cc
                  refine lv_aload_n hx hb dX12_nextToken_161 rfl (lv_at hl 0 rfl) ?_
                  refine lv_aload_n hx hb dX12_nextToken_162 rfl (lv_at hl 0 rfl) ?_
                  refine va_get (D := D) (ci := 12) (v := .int z23) (C := RX12) (T := TX12) (N := 37) hx hb hts inX12_nextToken_X12 hown hK hP 0 rfl rfl 15 (by decide) (hts _ mwX12_nextToken_2) (fun _ h9 => h9) rfl dX12_nextToken_163 ?_
                  refine lv_aload_n hx hb dX12_nextToken_166 rfl (lv_at hl 0 rfl) ?_
                  refine va_get (D := D) (ci := 12) (v := .int z3) (C := RX12) (T := TX12) (N := 37) hx hb hts inX12_nextToken_X12 hown hK hP 0 rfl rfl 16 (by decide) (hts _ mwX12_nextToken_3) (fun _ h9 => h9) rfl dX12_nextToken_167 ?_
                  refine lv_isub hx hb dX12_nextToken_170 ?_
                  refine lv_iconst (v := (2 : Int32)) hx hb dX12_nextToken_171 (by decide) ?_
                  have hq := jn_i hf
                  clear hf
                  obtain ⟨J29, eJ29, hf⟩ := hq
                  have hJ29 : ∀ (z28 : Int32) (ls : Array Slot) (H : Heap) (locs : List Loc), lv_has ls 2 [(0, .ref a_p0)] → va_P D vwCl [(a_p0, .inr (12, [.ref a_p0_st, .ref a_p0_isKept, .int i_p0_seats, .int i_p0_stirs, .ref a_p0_brings, .ref a_p0_need, .ref a_p0_draft, .int i_p0_dSeats, .int i_p0_dStirs, .ref a_p0_dStir, .ref a_p0_dNeed, .int i_p0_told, .int i_p0_highest, .ref a_p0_tape, .int i_p0_taped, .int z23, .int z3, .int z14, .int z24, .int i_p0_fault, .int i_p0_wrongAt, .ref a_p0_places, .ref a_p0_stirred, .ref a_p0_ways, .ref a_p0_waysThen, .ref a_p0_stays, .ref a_p0_fewest, .ref a_p0_bowls, .ref a_p0_has, .ref a_p0_goesOn, .ref a_p0_isThere, .ref a_p0_isThereThen, .ref a_p0_bestRow, .ref a_p0_lanes, .ref a_p0_sizes, .ref a_p0_cells, .int i_p0_torn])), (a_p0_tape, .inl (G 1, 320, .inl v_p0_tape))] H → va_D A [(a_p0, .inr (12, [.ref a_p0_st, .ref a_p0_isKept, .int i_p0_seats, .int i_p0_stirs, .ref a_p0_brings, .ref a_p0_need, .ref a_p0_draft, .int i_p0_dSeats, .int i_p0_dStirs, .ref a_p0_dStir, .ref a_p0_dNeed, .int i_p0_told, .int i_p0_highest, .ref a_p0_tape, .int i_p0_taped, .int z23, .int z3, .int z14, .int z24, .int i_p0_fault, .int i_p0_wrongAt, .ref a_p0_places, .ref a_p0_stirred, .ref a_p0_ways, .ref a_p0_waysThen, .ref a_p0_stays, .ref a_p0_fewest, .ref a_p0_bowls, .ref a_p0_has, .ref a_p0_goesOn, .ref a_p0_isThere, .ref a_p0_isThereThen, .ref a_p0_bestRow, .ref a_p0_lanes, .ref a_p0_sizes, .ref a_p0_cells, .int i_p0_torn])), (a_p0_tape, .inl (G 1, 320, .inl v_p0_tape))] → va_S A s.heap H locs → J29 z28 = some (o_i_p0_pos, o_i_p0_from, o_i_p0_sort, o_i_p0_value, o_i_p0_fault, o_i_p0_wrongAt) → W p l e rm_X12_nextToken s m ([.ref a_p0] : List Value).toArray below meth c H locs 0 0 Q (F0 m 201 ls [.int z28, .ref a_p0]) := by
                    clear hf hl hP hD hS
                    intro z28 ls H locs hl hP hD hS hf
                    replace hf := jn1_s eJ29 hf
                    refine lv_topi (fun z30 ez => ?_)
                    replace hf := bnd_s hf ez
                    clear ez
                    refine va_put (D := D) (ci := 12) (v := .int z30) (ty := .int) (C := RX12) (T := TX12) (N := 37) hx hb hts inX12_nextToken_X12 tyX12 tyX12_ok nmX12 hown hK hP hD hS 0 rfl rfl 18 (by decide) (hts _ mwX12_nextToken_9) (fun _ h9 => h9) rfl (by decide +kernel) rfl rfl (Nat.le_of_ble_eq_true rfl) dX12_nextToken_201 (fun H locs hP hD hS => ?_)
                    have hP : va_P D vwCl [(a_p0, .inr (12, [.ref a_p0_st, .ref a_p0_isKept, .int i_p0_seats, .int i_p0_stirs, .ref a_p0_brings, .ref a_p0_need, .ref a_p0_draft, .int i_p0_dSeats, .int i_p0_dStirs, .ref a_p0_dStir, .ref a_p0_dNeed, .int i_p0_told, .int i_p0_highest, .ref a_p0_tape, .int i_p0_taped, .int z23, .int z3, .int z14, .int z30, .int i_p0_fault, .int i_p0_wrongAt, .ref a_p0_places, .ref a_p0_stirred, .ref a_p0_ways, .ref a_p0_waysThen, .ref a_p0_stays, .ref a_p0_fewest, .ref a_p0_bowls, .ref a_p0_has, .ref a_p0_goesOn, .ref a_p0_isThere, .ref a_p0_isThereThen, .ref a_p0_bestRow, .ref a_p0_lanes, .ref a_p0_sizes, .ref a_p0_cells, .int i_p0_torn])), (a_p0_tape, .inl (G 1, 320, .inl v_p0_tape))] H := hP
                    have hD : va_D A [(a_p0, .inr (12, [.ref a_p0_st, .ref a_p0_isKept, .int i_p0_seats, .int i_p0_stirs, .ref a_p0_brings, .ref a_p0_need, .ref a_p0_draft, .int i_p0_dSeats, .int i_p0_dStirs, .ref a_p0_dStir, .ref a_p0_dNeed, .int i_p0_told, .int i_p0_highest, .ref a_p0_tape, .int i_p0_taped, .int z23, .int z3, .int z14, .int z30, .int i_p0_fault, .int i_p0_wrongAt, .ref a_p0_places, .ref a_p0_stirred, .ref a_p0_ways, .ref a_p0_waysThen, .ref a_p0_stays, .ref a_p0_fewest, .ref a_p0_bowls, .ref a_p0_has, .ref a_p0_goesOn, .ref a_p0_isThere, .ref a_p0_isThereThen, .ref a_p0_bestRow, .ref a_p0_lanes, .ref a_p0_sizes, .ref a_p0_cells, .int i_p0_torn])), (a_p0_tape, .inl (G 1, 320, .inl v_p0_tape))] := hD
                    refine lv_aload_n hx hb dX12_nextToken_204 rfl (lv_at hl 0 rfl) ?_
                    refine lv_dup hx hb dX12_nextToken_205 rfl ?_
                    refine va_get (D := D) (ci := 12) (v := .int z23) (C := RX12) (T := TX12) (N := 37) hx hb hts inX12_nextToken_X12 hown hK hP 0 rfl rfl 15 (by decide) (hts _ mwX12_nextToken_2) (fun _ h9 => h9) rfl dX12_nextToken_206 ?_
                    refine lv_iconst (v := (1 : Int32)) hx hb dX12_nextToken_209 (by decide) ?_
                    refine lv_iadd hx hb dX12_nextToken_210 ?_
                    refine lv_topi (fun z31 ez => ?_)
                    replace hf := bnd_s hf ez
                    clear ez
                    refine va_put (D := D) (ci := 12) (v := .int z31) (ty := .int) (C := RX12) (T := TX12) (N := 37) hx hb hts inX12_nextToken_X12 tyX12 tyX12_ok nmX12 hown hK hP hD hS 0 rfl rfl 15 (by decide) (hts _ mwX12_nextToken_2) (fun _ h9 => h9) rfl (by decide +kernel) rfl rfl (Nat.le_of_ble_eq_true rfl) dX12_nextToken_211 (fun H locs hP hD hS => ?_)
                    have hP : va_P D vwCl [(a_p0, .inr (12, [.ref a_p0_st, .ref a_p0_isKept, .int i_p0_seats, .int i_p0_stirs, .ref a_p0_brings, .ref a_p0_need, .ref a_p0_draft, .int i_p0_dSeats, .int i_p0_dStirs, .ref a_p0_dStir, .ref a_p0_dNeed, .int i_p0_told, .int i_p0_highest, .ref a_p0_tape, .int i_p0_taped, .int z31, .int z3, .int z14, .int z30, .int i_p0_fault, .int i_p0_wrongAt, .ref a_p0_places, .ref a_p0_stirred, .ref a_p0_ways, .ref a_p0_waysThen, .ref a_p0_stays, .ref a_p0_fewest, .ref a_p0_bowls, .ref a_p0_has, .ref a_p0_goesOn, .ref a_p0_isThere, .ref a_p0_isThereThen, .ref a_p0_bestRow, .ref a_p0_lanes, .ref a_p0_sizes, .ref a_p0_cells, .int i_p0_torn])), (a_p0_tape, .inl (G 1, 320, .inl v_p0_tape))] H := hP
                    have hD : va_D A [(a_p0, .inr (12, [.ref a_p0_st, .ref a_p0_isKept, .int i_p0_seats, .int i_p0_stirs, .ref a_p0_brings, .ref a_p0_need, .ref a_p0_draft, .int i_p0_dSeats, .int i_p0_dStirs, .ref a_p0_dStir, .ref a_p0_dNeed, .int i_p0_told, .int i_p0_highest, .ref a_p0_tape, .int i_p0_taped, .int z31, .int z3, .int z14, .int z30, .int i_p0_fault, .int i_p0_wrongAt, .ref a_p0_places, .ref a_p0_stirred, .ref a_p0_ways, .ref a_p0_waysThen, .ref a_p0_stays, .ref a_p0_fewest, .ref a_p0_bowls, .ref a_p0_has, .ref a_p0_goesOn, .ref a_p0_isThere, .ref a_p0_isThereThen, .ref a_p0_bestRow, .ref a_p0_lanes, .ref a_p0_sizes, .ref a_p0_cells, .int i_p0_torn])), (a_p0_tape, .inl (G 1, 320, .inl v_p0_tape))] := hD
                    refine lv_goto (tgt := 140) hx hb dX12_nextToken_214 (by decide) ?_
                    exact ih140 _ _ _ _ _ (lv_sub hl [0] rfl) hP hD hS hf
                  refine lv_icmp_ge (tgt := 197) hx hb dX12_nextToken_172 (by decide) (fun cc => ?_) (fun cc => ?_)
                  ·
                    replace hf := ite_t cc hf
                    clear cc
                    refine lv_aload_n hx hb dX12_nextToken_197 rfl (lv_at hl 0 rfl) ?_
                    refine va_get (D := D) (ci := 12) (v := .int z24) (C := RX12) (T := TX12) (N := 37) hx hb hts inX12_nextToken_X12 hown hK hP 0 rfl rfl 18 (by decide) (hts _ mwX12_nextToken_9) (fun _ h9 => h9) rfl dX12_nextToken_198 ?_
                    exact hJ29 _ _ _ _ (lv_sub hl [0] rfl) hP hD hS hf
                  ·
                    replace hf := ite_f cc hf
                    clear cc
                    refine lv_bipush (v := (10 : Int32)) hx hb dX12_nextToken_175 (by decide) ?_
                    refine lv_aload_n hx hb dX12_nextToken_177 rfl (lv_at hl 0 rfl) ?_
                    refine va_get (D := D) (ci := 12) (v := .int z24) (C := RX12) (T := TX12) (N := 37) hx hb hts inX12_nextToken_X12 hown hK hP 0 rfl rfl 18 (by decide) (hts _ mwX12_nextToken_9) (fun _ h9 => h9) rfl dX12_nextToken_178 ?_
                    refine lv_imul hx hb dX12_nextToken_181 ?_
                    refine lv_aload_n hx hb dX12_nextToken_182 rfl (lv_at hl 0 rfl) ?_
                    refine lv_aload_n hx hb dX12_nextToken_183 rfl (lv_at hl 0 rfl) ?_
                    refine va_get (D := D) (ci := 12) (v := .int z23) (C := RX12) (T := TX12) (N := 37) hx hb hts inX12_nextToken_X12 hown hK hP 0 rfl rfl 15 (by decide) (hts _ mwX12_nextToken_2) (fun _ h9 => h9) rfl dX12_nextToken_184 ?_
                    have hq := bd1_s hf
                    clear hf
                    obtain ⟨z32, hcall, hf⟩ := hq
                    refine gcI (ws' := [(a_p0, .inr (12, [.ref a_p0_st, .ref a_p0_isKept, .int i_p0_seats, .int i_p0_stirs, .ref a_p0_brings, .ref a_p0_need, .ref a_p0_draft, .int i_p0_dSeats, .int i_p0_dStirs, .ref a_p0_dStir, .ref a_p0_dNeed, .int i_p0_told, .int i_p0_highest, .ref a_p0_tape, .int i_p0_taped, .int z23, .int z3, .int z14, .int z24, .int i_p0_fault, .int i_p0_wrongAt, .ref a_p0_places, .ref a_p0_stirred, .ref a_p0_ways, .ref a_p0_waysThen, .ref a_p0_stays, .ref a_p0_fewest, .ref a_p0_bowls, .ref a_p0_has, .ref a_p0_goesOn, .ref a_p0_isThere, .ref a_p0_isThereThen, .ref a_p0_bestRow, .ref a_p0_lanes, .ref a_p0_sizes, .ref a_p0_cells, .int i_p0_torn])), (a_p0_tape, .inl (G 1, 320, .inl v_p0_tape))]) (va_runV (As := [.int z23]) (rest := [.int ((10 : Int32) * z24), .ref a_p0]) ⟨hx, hb, hml, hown, hts⟩ (c_X12_look (l := l) (D := D) (G := G) (sz := H.size) (a_p0 := a_p0) (a_p0_st := a_p0_st) (a_p0_isKept := a_p0_isKept) (a_p0_brings := a_p0_brings) (a_p0_need := a_p0_need) (a_p0_draft := a_p0_draft) (a_p0_dStir := a_p0_dStir) (a_p0_dNeed := a_p0_dNeed) (a_p0_tape := a_p0_tape) (a_p0_places := a_p0_places) (a_p0_stirred := a_p0_stirred) (a_p0_ways := a_p0_ways) (a_p0_waysThen := a_p0_waysThen) (a_p0_stays := a_p0_stays) (a_p0_fewest := a_p0_fewest) (a_p0_bowls := a_p0_bowls) (a_p0_has := a_p0_has) (a_p0_goesOn := a_p0_goesOn) (a_p0_isThere := a_p0_isThere) (a_p0_isThereThen := a_p0_isThereThen) (a_p0_bestRow := a_p0_bestRow) (a_p0_lanes := a_p0_lanes) (a_p0_sizes := a_p0_sizes) (a_p0_cells := a_p0_cells) (i_p0_seats := i_p0_seats) (i_p0_stirs := i_p0_stirs) (i_p0_dSeats := i_p0_dSeats) (i_p0_dStirs := i_p0_dStirs) (i_p0_told := i_p0_told) (i_p0_highest := i_p0_highest) (i_p0_taped := i_p0_taped) (i_p0_pos := z23) (i_p0_from := z3) (i_p0_sort := z14) (i_p0_value := z24) (i_p0_fault := i_p0_fault) (i_p0_wrongAt := i_p0_wrongAt) (i_p0_torn := i_p0_torn) (v_p0_tape := v_p0_tape) (x1 := z23) (r := z32) (hf := hcall)) (cwV 1 hts gX12_nextToken_X12_look rfl rfl rfl (by decide +kernel) ⟨Nat.le_of_ble_eq_true rfl, Nat.le_of_ble_eq_true rfl⟩) (preG_V (ci := 12) (hP.sub [0, 1] rfl) (hD.sub [0, 1] rfl rfl) hK rfl rfl) rfl rfl hl.1 rfl (lv_room (Nat.le_of_ble_eq_true rfl)) dX12_nextToken_187 ⟨Nat.le_of_ble_eq_true rfl, Nat.le_of_ble_eq_true rfl⟩) hP hD hS hA [0, 1] [] [0, 1] rfl rfl rfl (by decide) rfl rfl rfl (fun H locs hP hD hS => ?_)
                    clear hcall
                    refine lv_iadd hx hb dX12_nextToken_190 ?_
                    refine lv_bipush (v := (48 : Int32)) hx hb dX12_nextToken_191 (by decide) ?_
                    refine lv_isub hx hb dX12_nextToken_193 ?_
                    refine lv_goto (tgt := 201) hx hb dX12_nextToken_194 (by decide) ?_
                    exact hJ29 _ _ _ _ (lv_sub hl [0] rfl) hP hD hS hf
            exact hB25 _ _ _ _ _ _ (lv_sub hl [1] rfl) hP hD hS hf
        ·
          replace hf := ite_f cc hf
          clear cc
          refine lv_aload_n hx hb dX12_nextToken_77 rfl (lv_at hl 1 rfl) ?_
          refine lv_iconst (v := (1 : Int32)) hx hb dX12_nextToken_78 (by decide) ?_
          refine lv_topi (fun z33 ez => ?_)
          replace hf := bnd_s hf ez
          clear ez
          refine va_put (D := D) (ci := 12) (v := .int z33) (ty := .int) (C := RX12) (T := TX12) (N := 37) hx hb hts inX12_nextToken_X12 tyX12 tyX12_ok nmX12 hown hK hP hD hS 0 rfl rfl 17 (by decide) (hts _ mwX12_nextToken_8) (fun _ h9 => h9) rfl (by decide +kernel) rfl rfl (Nat.le_of_ble_eq_true rfl) dX12_nextToken_79 (fun H locs hP hD hS => ?_)
          have hP : va_P D vwCl [(a_p0, .inr (12, [.ref a_p0_st, .ref a_p0_isKept, .int i_p0_seats, .int i_p0_stirs, .ref a_p0_brings, .ref a_p0_need, .ref a_p0_draft, .int i_p0_dSeats, .int i_p0_dStirs, .ref a_p0_dStir, .ref a_p0_dNeed, .int i_p0_told, .int i_p0_highest, .ref a_p0_tape, .int i_p0_taped, .int z1, .int z3, .int z33, .int i_p0_value, .int i_p0_fault, .int i_p0_wrongAt, .ref a_p0_places, .ref a_p0_stirred, .ref a_p0_ways, .ref a_p0_waysThen, .ref a_p0_stays, .ref a_p0_fewest, .ref a_p0_bowls, .ref a_p0_has, .ref a_p0_goesOn, .ref a_p0_isThere, .ref a_p0_isThereThen, .ref a_p0_bestRow, .ref a_p0_lanes, .ref a_p0_sizes, .ref a_p0_cells, .int i_p0_torn])), (a_p0_tape, .inl (G 1, 320, .inl v_p0_tape))] H := hP
          have hD : va_D A [(a_p0, .inr (12, [.ref a_p0_st, .ref a_p0_isKept, .int i_p0_seats, .int i_p0_stirs, .ref a_p0_brings, .ref a_p0_need, .ref a_p0_draft, .int i_p0_dSeats, .int i_p0_dStirs, .ref a_p0_dStir, .ref a_p0_dNeed, .int i_p0_told, .int i_p0_highest, .ref a_p0_tape, .int i_p0_taped, .int z1, .int z3, .int z33, .int i_p0_value, .int i_p0_fault, .int i_p0_wrongAt, .ref a_p0_places, .ref a_p0_stirred, .ref a_p0_ways, .ref a_p0_waysThen, .ref a_p0_stays, .ref a_p0_fewest, .ref a_p0_bowls, .ref a_p0_has, .ref a_p0_goesOn, .ref a_p0_isThere, .ref a_p0_isThereThen, .ref a_p0_bestRow, .ref a_p0_lanes, .ref a_p0_sizes, .ref a_p0_cells, .int i_p0_torn])), (a_p0_tape, .inl (G 1, 320, .inl v_p0_tape))] := hD
          have hq := lq1_i hf
          clear hf
          obtain ⟨B35, eB35, NB35, hf⟩ := hq
          have hB35 : ∀ (n : Nat) (z34 : Int32) (ls : Array Slot) (H : Heap) (locs : List Loc), lv_has ls 2 [(0, .ref a_p0)] → va_P D vwCl [(a_p0, .inr (12, [.ref a_p0_st, .ref a_p0_isKept, .int i_p0_seats, .int i_p0_stirs, .ref a_p0_brings, .ref a_p0_need, .ref a_p0_draft, .int i_p0_dSeats, .int i_p0_dStirs, .ref a_p0_dStir, .ref a_p0_dNeed, .int i_p0_told, .int i_p0_highest, .ref a_p0_tape, .int i_p0_taped, .int z34, .int z3, .int z33, .int i_p0_value, .int i_p0_fault, .int i_p0_wrongAt, .ref a_p0_places, .ref a_p0_stirred, .ref a_p0_ways, .ref a_p0_waysThen, .ref a_p0_stays, .ref a_p0_fewest, .ref a_p0_bowls, .ref a_p0_has, .ref a_p0_goesOn, .ref a_p0_isThere, .ref a_p0_isThereThen, .ref a_p0_bestRow, .ref a_p0_lanes, .ref a_p0_sizes, .ref a_p0_cells, .int i_p0_torn])), (a_p0_tape, .inl (G 1, 320, .inl v_p0_tape))] H → va_D A [(a_p0, .inr (12, [.ref a_p0_st, .ref a_p0_isKept, .int i_p0_seats, .int i_p0_stirs, .ref a_p0_brings, .ref a_p0_need, .ref a_p0_draft, .int i_p0_dSeats, .int i_p0_dStirs, .ref a_p0_dStir, .ref a_p0_dNeed, .int i_p0_told, .int i_p0_highest, .ref a_p0_tape, .int i_p0_taped, .int z34, .int z3, .int z33, .int i_p0_value, .int i_p0_fault, .int i_p0_wrongAt, .ref a_p0_places, .ref a_p0_stirred, .ref a_p0_ways, .ref a_p0_waysThen, .ref a_p0_stays, .ref a_p0_fewest, .ref a_p0_bowls, .ref a_p0_has, .ref a_p0_goesOn, .ref a_p0_isThere, .ref a_p0_isThereThen, .ref a_p0_bestRow, .ref a_p0_lanes, .ref a_p0_sizes, .ref a_p0_cells, .int i_p0_torn])), (a_p0_tape, .inl (G 1, 320, .inl v_p0_tape))] → va_S A s.heap H locs → lq1 B35 n z34 = some (o_i_p0_pos, o_i_p0_from, o_i_p0_sort, o_i_p0_value, o_i_p0_fault, o_i_p0_wrongAt) → W p l e rm_X12_nextToken s m ([.ref a_p0] : List Value).toArray below meth c H locs 0 0 Q (F0 m 82 ls []) := by
            clear hf hl hP hD hS
            intro n
            induction n with
            | zero =>
              intro z34 ls H locs hl hP hD hS hf
              exact (lq1_0 hf).elim
            | succ n ih82 =>
              intro z34 ls H locs hl hP hD hS hf
              replace hf := lq1_s eB35 hf
              unfold B_X12_nextToken_82 at hf
              refine lv_aload_n hx hb dX12_nextToken_82 rfl (lv_at hl 0 rfl) ?_
              refine lv_aload_n hx hb dX12_nextToken_83 rfl (lv_at hl 0 rfl) ?_
              refine va_get (D := D) (ci := 12) (v := .int z34) (C := RX12) (T := TX12) (N := 37) hx hb hts inX12_nextToken_X12 hown hK hP 0 rfl rfl 15 (by decide) (hts _ mwX12_nextToken_2) (fun _ h9 => h9) rfl dX12_nextToken_84 ?_
              have hq := bd1_s hf
              clear hf
              obtain ⟨z36, hcall, hf⟩ := hq
              refine gcI (ws' := [(a_p0, .inr (12, [.ref a_p0_st, .ref a_p0_isKept, .int i_p0_seats, .int i_p0_stirs, .ref a_p0_brings, .ref a_p0_need, .ref a_p0_draft, .int i_p0_dSeats, .int i_p0_dStirs, .ref a_p0_dStir, .ref a_p0_dNeed, .int i_p0_told, .int i_p0_highest, .ref a_p0_tape, .int i_p0_taped, .int z34, .int z3, .int z33, .int i_p0_value, .int i_p0_fault, .int i_p0_wrongAt, .ref a_p0_places, .ref a_p0_stirred, .ref a_p0_ways, .ref a_p0_waysThen, .ref a_p0_stays, .ref a_p0_fewest, .ref a_p0_bowls, .ref a_p0_has, .ref a_p0_goesOn, .ref a_p0_isThere, .ref a_p0_isThereThen, .ref a_p0_bestRow, .ref a_p0_lanes, .ref a_p0_sizes, .ref a_p0_cells, .int i_p0_torn])), (a_p0_tape, .inl (G 1, 320, .inl v_p0_tape))]) (va_runV (As := [.int z34]) (rest := []) ⟨hx, hb, hml, hown, hts⟩ (c_X12_look (l := l) (D := D) (G := G) (sz := H.size) (a_p0 := a_p0) (a_p0_st := a_p0_st) (a_p0_isKept := a_p0_isKept) (a_p0_brings := a_p0_brings) (a_p0_need := a_p0_need) (a_p0_draft := a_p0_draft) (a_p0_dStir := a_p0_dStir) (a_p0_dNeed := a_p0_dNeed) (a_p0_tape := a_p0_tape) (a_p0_places := a_p0_places) (a_p0_stirred := a_p0_stirred) (a_p0_ways := a_p0_ways) (a_p0_waysThen := a_p0_waysThen) (a_p0_stays := a_p0_stays) (a_p0_fewest := a_p0_fewest) (a_p0_bowls := a_p0_bowls) (a_p0_has := a_p0_has) (a_p0_goesOn := a_p0_goesOn) (a_p0_isThere := a_p0_isThere) (a_p0_isThereThen := a_p0_isThereThen) (a_p0_bestRow := a_p0_bestRow) (a_p0_lanes := a_p0_lanes) (a_p0_sizes := a_p0_sizes) (a_p0_cells := a_p0_cells) (i_p0_seats := i_p0_seats) (i_p0_stirs := i_p0_stirs) (i_p0_dSeats := i_p0_dSeats) (i_p0_dStirs := i_p0_dStirs) (i_p0_told := i_p0_told) (i_p0_highest := i_p0_highest) (i_p0_taped := i_p0_taped) (i_p0_pos := z34) (i_p0_from := z3) (i_p0_sort := z33) (i_p0_value := i_p0_value) (i_p0_fault := i_p0_fault) (i_p0_wrongAt := i_p0_wrongAt) (i_p0_torn := i_p0_torn) (v_p0_tape := v_p0_tape) (x1 := z34) (r := z36) (hf := hcall)) (cwV 1 hts gX12_nextToken_X12_look rfl rfl rfl (by decide +kernel) ⟨Nat.le_of_ble_eq_true rfl, Nat.le_of_ble_eq_true rfl⟩) (preG_V (ci := 12) (hP.sub [0, 1] rfl) (hD.sub [0, 1] rfl rfl) hK rfl rfl) rfl rfl hl.1 rfl (lv_room (Nat.le_of_ble_eq_true rfl)) dX12_nextToken_87 ⟨Nat.le_of_ble_eq_true rfl, Nat.le_of_ble_eq_true rfl⟩) hP hD hS hA [0, 1] [] [0, 1] rfl rfl rfl (by decide) rfl rfl rfl (fun H locs hP hD hS => ?_)
              clear hcall
              refine lv_i2l hx hb dX12_nextToken_90 rfl ?_
              refine lv_ldc2 (v := (97 : Int64)) hx hb hown (hts _ mwX12_nextToken_4) dX12_nextToken_91 ?_
              refine lv_ldc2 (v := (122 : Int64)) hx hb hown (hts _ mwX12_nextToken_5) dX12_nextToken_94 ?_
              have hq := bd1_s hf
              clear hf
              obtain ⟨z37, hcall, hf⟩ := hq
              refine gcI (ws' := [(a_p0, .inr (12, [.ref a_p0_st, .ref a_p0_isKept, .int i_p0_seats, .int i_p0_stirs, .ref a_p0_brings, .ref a_p0_need, .ref a_p0_draft, .int i_p0_dSeats, .int i_p0_dStirs, .ref a_p0_dStir, .ref a_p0_dNeed, .int i_p0_told, .int i_p0_highest, .ref a_p0_tape, .int i_p0_taped, .int z34, .int z3, .int z33, .int i_p0_value, .int i_p0_fault, .int i_p0_wrongAt, .ref a_p0_places, .ref a_p0_stirred, .ref a_p0_ways, .ref a_p0_waysThen, .ref a_p0_stays, .ref a_p0_fewest, .ref a_p0_bowls, .ref a_p0_has, .ref a_p0_goesOn, .ref a_p0_isThere, .ref a_p0_isThereThen, .ref a_p0_bestRow, .ref a_p0_lanes, .ref a_p0_sizes, .ref a_p0_cells, .int i_p0_torn])), (a_p0_tape, .inl (G 1, 320, .inl v_p0_tape))]) (va_runS (As := [.long (z36).toInt64, .long (97 : Int64), .long (122 : Int64)]) (rest := []) ⟨hx, hb, hml, hown, hts⟩ (c_X12_in (l := l) (D := D) (G := G) (sz := H.size) (x0 := (z36).toInt64) (x2 := (97 : Int64)) (x4 := (122 : Int64)) (r := z37) (hf := hcall)) (va_cwS 3 hts gX12_nextToken_X12_in rfl rfl rfl (by decide +kernel) ⟨Nat.le_of_ble_eq_true rfl, Nat.le_of_ble_eq_true rfl⟩) (preG_S (hP.sub [] rfl) (hD.sub [] rfl rfl) hK) rfl rfl hl.1 rfl (lv_room (Nat.le_of_ble_eq_true rfl)) dX12_nextToken_97 ⟨Nat.le_of_ble_eq_true rfl, Nat.le_of_ble_eq_true rfl⟩) hP hD hS hA [] [0, 1] [0, 1] rfl rfl rfl (by decide) rfl rfl rfl (fun H locs hP hD hS => ?_)
              clear hcall
              refine lv_if_eq (tgt := 274) hx hb dX12_nextToken_100 (by decide) (fun cc => ?_) (fun cc => ?_)
              ·
                replace hf := ite_t cc hf
                clear cc
                obtain ⟨rfl, rfl, rfl, rfl, rfl, rfl⟩ := ou6 hf
                rw [hQ]
                exact W.vret hx hb hr (fun t ht hW => ⟨⟨(), rfl, trivial, by rw [ht]; exact hP, va_K.moved hW.alike hK, hD⟩, hS.F ht⟩) hS.2.2 dX12_nextToken_274
              ·
                replace hf := ite_f cc hf
                clear cc
                refine lv_aload_n hx hb dX12_nextToken_103 rfl (lv_at hl 0 rfl) ?_
                refine lv_dup hx hb dX12_nextToken_104 rfl ?_
                refine va_get (D := D) (ci := 12) (v := .int z34) (C := RX12) (T := TX12) (N := 37) hx hb hts inX12_nextToken_X12 hown hK hP 0 rfl rfl 15 (by decide) (hts _ mwX12_nextToken_2) (fun _ h9 => h9) rfl dX12_nextToken_105 ?_
                refine lv_iconst (v := (1 : Int32)) hx hb dX12_nextToken_108 (by decide) ?_
                refine lv_iadd hx hb dX12_nextToken_109 ?_
                refine lv_topi (fun z38 ez => ?_)
                replace hf := bnd_s hf ez
                clear ez
                refine va_put (D := D) (ci := 12) (v := .int z38) (ty := .int) (C := RX12) (T := TX12) (N := 37) hx hb hts inX12_nextToken_X12 tyX12 tyX12_ok nmX12 hown hK hP hD hS 0 rfl rfl 15 (by decide) (hts _ mwX12_nextToken_2) (fun _ h9 => h9) rfl (by decide +kernel) rfl rfl (Nat.le_of_ble_eq_true rfl) dX12_nextToken_110 (fun H locs hP hD hS => ?_)
                have hP : va_P D vwCl [(a_p0, .inr (12, [.ref a_p0_st, .ref a_p0_isKept, .int i_p0_seats, .int i_p0_stirs, .ref a_p0_brings, .ref a_p0_need, .ref a_p0_draft, .int i_p0_dSeats, .int i_p0_dStirs, .ref a_p0_dStir, .ref a_p0_dNeed, .int i_p0_told, .int i_p0_highest, .ref a_p0_tape, .int i_p0_taped, .int z38, .int z3, .int z33, .int i_p0_value, .int i_p0_fault, .int i_p0_wrongAt, .ref a_p0_places, .ref a_p0_stirred, .ref a_p0_ways, .ref a_p0_waysThen, .ref a_p0_stays, .ref a_p0_fewest, .ref a_p0_bowls, .ref a_p0_has, .ref a_p0_goesOn, .ref a_p0_isThere, .ref a_p0_isThereThen, .ref a_p0_bestRow, .ref a_p0_lanes, .ref a_p0_sizes, .ref a_p0_cells, .int i_p0_torn])), (a_p0_tape, .inl (G 1, 320, .inl v_p0_tape))] H := hP
                have hD : va_D A [(a_p0, .inr (12, [.ref a_p0_st, .ref a_p0_isKept, .int i_p0_seats, .int i_p0_stirs, .ref a_p0_brings, .ref a_p0_need, .ref a_p0_draft, .int i_p0_dSeats, .int i_p0_dStirs, .ref a_p0_dStir, .ref a_p0_dNeed, .int i_p0_told, .int i_p0_highest, .ref a_p0_tape, .int i_p0_taped, .int z38, .int z3, .int z33, .int i_p0_value, .int i_p0_fault, .int i_p0_wrongAt, .ref a_p0_places, .ref a_p0_stirred, .ref a_p0_ways, .ref a_p0_waysThen, .ref a_p0_stays, .ref a_p0_fewest, .ref a_p0_bowls, .ref a_p0_has, .ref a_p0_goesOn, .ref a_p0_isThere, .ref a_p0_isThereThen, .ref a_p0_bestRow, .ref a_p0_lanes, .ref a_p0_sizes, .ref a_p0_cells, .int i_p0_torn])), (a_p0_tape, .inl (G 1, 320, .inl v_p0_tape))] := hD
                refine lv_goto (tgt := 82) hx hb dX12_nextToken_113 (by decide) ?_
                exact ih82 _ _ _ _ (lv_sub hl [0] rfl) hP hD hS hf
          exact hB35 _ _ _ _ _ (lv_sub hl [1] rfl) hP hD hS hf
      ·
        replace hf := ite_f cc hf
        clear cc
        refine lv_aload_n hx hb dX12_nextToken_55 rfl (lv_at hl 1 rfl) ?_
        refine lv_iconst (v := (0 : Int32)) hx hb dX12_nextToken_56 (by decide) ?_
        refine lv_topi (fun z39 ez => ?_)
        replace hf := bnd_s hf ez
        clear ez
        refine va_put (D := D) (ci := 12) (v := .int z39) (ty := .int) (C := RX12) (T := TX12) (N := 37) hx hb hts inX12_nextToken_X12 tyX12 tyX12_ok nmX12 hown hK hP hD hS 0 rfl rfl 17 (by decide) (hts _ mwX12_nextToken_8) (fun _ h9 => h9) rfl (by decide +kernel) rfl rfl (Nat.le_of_ble_eq_true rfl) dX12_nextToken_57 (fun H locs hP hD hS => ?_)
        have hP : va_P D vwCl [(a_p0, .inr (12, [.ref a_p0_st, .ref a_p0_isKept, .int i_p0_seats, .int i_p0_stirs, .ref a_p0_brings, .ref a_p0_need, .ref a_p0_draft, .int i_p0_dSeats, .int i_p0_dStirs, .ref a_p0_dStir, .ref a_p0_dNeed, .int i_p0_told, .int i_p0_highest, .ref a_p0_tape, .int i_p0_taped, .int z1, .int z3, .int z39, .int i_p0_value, .int i_p0_fault, .int i_p0_wrongAt, .ref a_p0_places, .ref a_p0_stirred, .ref a_p0_ways, .ref a_p0_waysThen, .ref a_p0_stays, .ref a_p0_fewest, .ref a_p0_bowls, .ref a_p0_has, .ref a_p0_goesOn, .ref a_p0_isThere, .ref a_p0_isThereThen, .ref a_p0_bestRow, .ref a_p0_lanes, .ref a_p0_sizes, .ref a_p0_cells, .int i_p0_torn])), (a_p0_tape, .inl (G 1, 320, .inl v_p0_tape))] H := hP
        have hD : va_D A [(a_p0, .inr (12, [.ref a_p0_st, .ref a_p0_isKept, .int i_p0_seats, .int i_p0_stirs, .ref a_p0_brings, .ref a_p0_need, .ref a_p0_draft, .int i_p0_dSeats, .int i_p0_dStirs, .ref a_p0_dStir, .ref a_p0_dNeed, .int i_p0_told, .int i_p0_highest, .ref a_p0_tape, .int i_p0_taped, .int z1, .int z3, .int z39, .int i_p0_value, .int i_p0_fault, .int i_p0_wrongAt, .ref a_p0_places, .ref a_p0_stirred, .ref a_p0_ways, .ref a_p0_waysThen, .ref a_p0_stays, .ref a_p0_fewest, .ref a_p0_bowls, .ref a_p0_has, .ref a_p0_goesOn, .ref a_p0_isThere, .ref a_p0_isThereThen, .ref a_p0_bestRow, .ref a_p0_lanes, .ref a_p0_sizes, .ref a_p0_cells, .int i_p0_torn])), (a_p0_tape, .inl (G 1, 320, .inl v_p0_tape))] := hD
        refine lv_goto (tgt := 274) hx hb dX12_nextToken_60 (by decide) ?_
        obtain ⟨rfl, rfl, rfl, rfl, rfl, rfl⟩ := ou6 hf
        rw [hQ]
        exact W.vret hx hb hr (fun t ht hW => ⟨⟨(), rfl, trivial, by rw [ht]; exact hP, va_K.moved hW.alike hK, hD⟩, hS.F ht⟩) hS.2.2 dX12_nextToken_274
    have hq := lq1_i hf
    clear hf
    obtain ⟨B41, eB41, NB41, hf⟩ := hq
    have hB41 : ∀ (n : Nat) (z40 : Int32) (ls : Array Slot) (H : Heap) (locs : List Loc), lv_has ls 2 [(0, .ref a_p0)] → va_P D vwCl [(a_p0, .inr (12, [.ref a_p0_st, .ref a_p0_isKept, .int i_p0_seats, .int i_p0_stirs, .ref a_p0_brings, .ref a_p0_need, .ref a_p0_draft, .int i_p0_dSeats, .int i_p0_dStirs, .ref a_p0_dStir, .ref a_p0_dNeed, .int i_p0_told, .int i_p0_highest, .ref a_p0_tape, .int i_p0_taped, .int z40, .int i_p0_from, .int i_p0_sort, .int i_p0_value, .int i_p0_fault, .int i_p0_wrongAt, .ref a_p0_places, .ref a_p0_stirred, .ref a_p0_ways, .ref a_p0_waysThen, .ref a_p0_stays, .ref a_p0_fewest, .ref a_p0_bowls, .ref a_p0_has, .ref a_p0_goesOn, .ref a_p0_isThere, .ref a_p0_isThereThen, .ref a_p0_bestRow, .ref a_p0_lanes, .ref a_p0_sizes, .ref a_p0_cells, .int i_p0_torn])), (a_p0_tape, .inl (G 1, 320, .inl v_p0_tape))] H → va_D A [(a_p0, .inr (12, [.ref a_p0_st, .ref a_p0_isKept, .int i_p0_seats, .int i_p0_stirs, .ref a_p0_brings, .ref a_p0_need, .ref a_p0_draft, .int i_p0_dSeats, .int i_p0_dStirs, .ref a_p0_dStir, .ref a_p0_dNeed, .int i_p0_told, .int i_p0_highest, .ref a_p0_tape, .int i_p0_taped, .int z40, .int i_p0_from, .int i_p0_sort, .int i_p0_value, .int i_p0_fault, .int i_p0_wrongAt, .ref a_p0_places, .ref a_p0_stirred, .ref a_p0_ways, .ref a_p0_waysThen, .ref a_p0_stays, .ref a_p0_fewest, .ref a_p0_bowls, .ref a_p0_has, .ref a_p0_goesOn, .ref a_p0_isThere, .ref a_p0_isThereThen, .ref a_p0_bestRow, .ref a_p0_lanes, .ref a_p0_sizes, .ref a_p0_cells, .int i_p0_torn])), (a_p0_tape, .inl (G 1, 320, .inl v_p0_tape))] → va_S A s.heap H locs → lq1 B41 n z40 = some (o_i_p0_pos, o_i_p0_from, o_i_p0_sort, o_i_p0_value, o_i_p0_fault, o_i_p0_wrongAt) → W p l e rm_X12_nextToken s m ([.ref a_p0] : List Value).toArray below meth c H locs 0 0 Q (F0 m 8 ls []) := by
      clear hf hl hP hD hS
      intro n
      induction n with
      | zero =>
        intro z40 ls H locs hl hP hD hS hf
        exact (lq1_0 hf).elim
      | succ n ih8 =>
        intro z40 ls H locs hl hP hD hS hf
        replace hf := lq1_s eB41 hf
        unfold B_X12_nextToken_8 at hf
        refine lv_aload_n hx hb dX12_nextToken_8 rfl (lv_at hl 0 rfl) ?_
        refine lv_aload_n hx hb dX12_nextToken_9 rfl (lv_at hl 0 rfl) ?_
        refine va_get (D := D) (ci := 12) (v := .int z40) (C := RX12) (T := TX12) (N := 37) hx hb hts inX12_nextToken_X12 hown hK hP 0 rfl rfl 15 (by decide) (hts _ mwX12_nextToken_2) (fun _ h9 => h9) rfl dX12_nextToken_10 ?_
        have hq := bd1_s hf
        clear hf
        obtain ⟨z42, hcall, hf⟩ := hq
        refine gcI (ws' := [(a_p0, .inr (12, [.ref a_p0_st, .ref a_p0_isKept, .int i_p0_seats, .int i_p0_stirs, .ref a_p0_brings, .ref a_p0_need, .ref a_p0_draft, .int i_p0_dSeats, .int i_p0_dStirs, .ref a_p0_dStir, .ref a_p0_dNeed, .int i_p0_told, .int i_p0_highest, .ref a_p0_tape, .int i_p0_taped, .int z40, .int i_p0_from, .int i_p0_sort, .int i_p0_value, .int i_p0_fault, .int i_p0_wrongAt, .ref a_p0_places, .ref a_p0_stirred, .ref a_p0_ways, .ref a_p0_waysThen, .ref a_p0_stays, .ref a_p0_fewest, .ref a_p0_bowls, .ref a_p0_has, .ref a_p0_goesOn, .ref a_p0_isThere, .ref a_p0_isThereThen, .ref a_p0_bestRow, .ref a_p0_lanes, .ref a_p0_sizes, .ref a_p0_cells, .int i_p0_torn])), (a_p0_tape, .inl (G 1, 320, .inl v_p0_tape))]) (va_runV (As := [.int z40]) (rest := []) ⟨hx, hb, hml, hown, hts⟩ (c_X12_look (l := l) (D := D) (G := G) (sz := H.size) (a_p0 := a_p0) (a_p0_st := a_p0_st) (a_p0_isKept := a_p0_isKept) (a_p0_brings := a_p0_brings) (a_p0_need := a_p0_need) (a_p0_draft := a_p0_draft) (a_p0_dStir := a_p0_dStir) (a_p0_dNeed := a_p0_dNeed) (a_p0_tape := a_p0_tape) (a_p0_places := a_p0_places) (a_p0_stirred := a_p0_stirred) (a_p0_ways := a_p0_ways) (a_p0_waysThen := a_p0_waysThen) (a_p0_stays := a_p0_stays) (a_p0_fewest := a_p0_fewest) (a_p0_bowls := a_p0_bowls) (a_p0_has := a_p0_has) (a_p0_goesOn := a_p0_goesOn) (a_p0_isThere := a_p0_isThere) (a_p0_isThereThen := a_p0_isThereThen) (a_p0_bestRow := a_p0_bestRow) (a_p0_lanes := a_p0_lanes) (a_p0_sizes := a_p0_sizes) (a_p0_cells := a_p0_cells) (i_p0_seats := i_p0_seats) (i_p0_stirs := i_p0_stirs) (i_p0_dSeats := i_p0_dSeats) (i_p0_dStirs := i_p0_dStirs) (i_p0_told := i_p0_told) (i_p0_highest := i_p0_highest) (i_p0_taped := i_p0_taped) (i_p0_pos := z40) (i_p0_from := i_p0_from) (i_p0_sort := i_p0_sort) (i_p0_value := i_p0_value) (i_p0_fault := i_p0_fault) (i_p0_wrongAt := i_p0_wrongAt) (i_p0_torn := i_p0_torn) (v_p0_tape := v_p0_tape) (x1 := z40) (r := z42) (hf := hcall)) (cwV 1 hts gX12_nextToken_X12_look rfl rfl rfl (by decide +kernel) ⟨Nat.le_of_ble_eq_true rfl, Nat.le_of_ble_eq_true rfl⟩) (preG_V (ci := 12) (hP.sub [0, 1] rfl) (hD.sub [0, 1] rfl rfl) hK rfl rfl) rfl rfl hl.1 rfl (lv_room (Nat.le_of_ble_eq_true rfl)) dX12_nextToken_13 ⟨Nat.le_of_ble_eq_true rfl, Nat.le_of_ble_eq_true rfl⟩) hP hD hS hA [0, 1] [] [0, 1] rfl rfl rfl (by decide) rfl rfl rfl (fun H locs hP hD hS => ?_)
        clear hcall
        refine lv_bipush (v := (32 : Int32)) hx hb dX12_nextToken_16 (by decide) ?_
        refine lv_icmp_ne (tgt := 34) hx hb dX12_nextToken_18 (by decide) (fun cc => ?_) (fun cc => ?_)
        ·
          replace hf := ite_f cc hf
          clear cc
          exact hJ2 _ _ _ _ (lv_sub hl [0] rfl) hP hD hS hf
        ·
          replace hf := ite_t cc hf
          clear cc
          refine lv_aload_n hx hb dX12_nextToken_21 rfl (lv_at hl 0 rfl) ?_
          refine lv_dup hx hb dX12_nextToken_22 rfl ?_
          refine va_get (D := D) (ci := 12) (v := .int z40) (C := RX12) (T := TX12) (N := 37) hx hb hts inX12_nextToken_X12 hown hK hP 0 rfl rfl 15 (by decide) (hts _ mwX12_nextToken_2) (fun _ h9 => h9) rfl dX12_nextToken_23 ?_
          refine lv_iconst (v := (1 : Int32)) hx hb dX12_nextToken_26 (by decide) ?_
          refine lv_iadd hx hb dX12_nextToken_27 ?_
          refine lv_topi (fun z43 ez => ?_)
          replace hf := bnd_s hf ez
          clear ez
          refine va_put (D := D) (ci := 12) (v := .int z43) (ty := .int) (C := RX12) (T := TX12) (N := 37) hx hb hts inX12_nextToken_X12 tyX12 tyX12_ok nmX12 hown hK hP hD hS 0 rfl rfl 15 (by decide) (hts _ mwX12_nextToken_2) (fun _ h9 => h9) rfl (by decide +kernel) rfl rfl (Nat.le_of_ble_eq_true rfl) dX12_nextToken_28 (fun H locs hP hD hS => ?_)
          have hP : va_P D vwCl [(a_p0, .inr (12, [.ref a_p0_st, .ref a_p0_isKept, .int i_p0_seats, .int i_p0_stirs, .ref a_p0_brings, .ref a_p0_need, .ref a_p0_draft, .int i_p0_dSeats, .int i_p0_dStirs, .ref a_p0_dStir, .ref a_p0_dNeed, .int i_p0_told, .int i_p0_highest, .ref a_p0_tape, .int i_p0_taped, .int z43, .int i_p0_from, .int i_p0_sort, .int i_p0_value, .int i_p0_fault, .int i_p0_wrongAt, .ref a_p0_places, .ref a_p0_stirred, .ref a_p0_ways, .ref a_p0_waysThen, .ref a_p0_stays, .ref a_p0_fewest, .ref a_p0_bowls, .ref a_p0_has, .ref a_p0_goesOn, .ref a_p0_isThere, .ref a_p0_isThereThen, .ref a_p0_bestRow, .ref a_p0_lanes, .ref a_p0_sizes, .ref a_p0_cells, .int i_p0_torn])), (a_p0_tape, .inl (G 1, 320, .inl v_p0_tape))] H := hP
          have hD : va_D A [(a_p0, .inr (12, [.ref a_p0_st, .ref a_p0_isKept, .int i_p0_seats, .int i_p0_stirs, .ref a_p0_brings, .ref a_p0_need, .ref a_p0_draft, .int i_p0_dSeats, .int i_p0_dStirs, .ref a_p0_dStir, .ref a_p0_dNeed, .int i_p0_told, .int i_p0_highest, .ref a_p0_tape, .int i_p0_taped, .int z43, .int i_p0_from, .int i_p0_sort, .int i_p0_value, .int i_p0_fault, .int i_p0_wrongAt, .ref a_p0_places, .ref a_p0_stirred, .ref a_p0_ways, .ref a_p0_waysThen, .ref a_p0_stays, .ref a_p0_fewest, .ref a_p0_bowls, .ref a_p0_has, .ref a_p0_goesOn, .ref a_p0_isThere, .ref a_p0_isThereThen, .ref a_p0_bestRow, .ref a_p0_lanes, .ref a_p0_sizes, .ref a_p0_cells, .int i_p0_torn])), (a_p0_tape, .inl (G 1, 320, .inl v_p0_tape))] := hD
          refine lv_goto (tgt := 8) hx hb dX12_nextToken_31 (by decide) ?_
          exact ih8 _ _ _ _ (lv_sub hl [0] rfl) hP hD hS hf
    exact hB41 _ _ _ _ _ (lv_sub hl [0] rfl) hP hD hS hf
  ·
    replace hf := ite_f cc hf
    clear cc
    obtain ⟨rfl, rfl, rfl, rfl, rfl, rfl⟩ := ou6 hf
    rw [hQ]
    exact W.vret hx hb hr (fun t ht hW => ⟨⟨(), rfl, trivial, by rw [ht]; exact hP, va_K.moved hW.alike hK, hD⟩, hS.F ht⟩) hS.2.2 dX12_nextToken_7
