noncomputable def f_X10_begin (v_p0_rules_need : (Nat → Int32)) (v_p0_state_pieces : (Nat → Int32)) (v_p0_state_friends : (Nat → Int32)) (v_p0_state_spoons : (Nat → Int32)) (v_p0_state_eaten : (Nat → Int32)) : Option (Int32 × Int32 × Int32 × Int32 × Int32 × Int32 × Int32 × (Nat → Int32) × Int32 × Int32 × Int32 × Int32 × (Nat → Int32) × (Nat → Int32) × (Nat → Int32) × (Nat → Int32)) := (bd3 (f_X6_reset v_p0_rules_need) (fun (z1 : Int32) (z2 : Int32) (w3 : (Nat → Int32)) => (bd8 (f_X8_reset v_p0_state_pieces v_p0_state_friends v_p0_state_spoons v_p0_state_eaten) (fun (z4 : Int32) (z5 : Int32) (z6 : Int32) (z7 : Int32) (w8 : (Nat → Int32)) (w9 : (Nat → Int32)) (w10 : (Nat → Int32)) (w11 : (Nat → Int32)) => (bd1 (f_X9_rewind) (fun (z12 : Int32) => (bnd (0 : Int32) (fun (z13 : Int32) => (bnd (0 : Int32) (fun (z14 : Int32) => (bnd (0 : Int32) (fun (z15 : Int32) => (bnd (0 : Int32) (fun (z16 : Int32) => (some (z13, z14, z15, z16, z12, z1, z2, w3, z4, z5, z6, z7, w8, w9, w10, w11))))))))))))))))
abbrev rm_X10_begin : Room := { frames := 2, cells := 0, slots := 0, locals := 43 }
theorem inX10_begin_X10 : ∀ w ∈ wsX100, w ∈ wsX10_begin := by decide +kernel
theorem mwX10_begin_1 : Cond.fieldLink RX10 12 "LadleKings$TextReader" "rules" "LLadleKings$Rules;" ∈ wsX10_begin := by decide +kernel
theorem mwX10_begin_2 : Cond.fieldLink RX10 21 "LadleKings$TextReader" "state" "LLadleKings$State;" ∈ wsX10_begin := by decide +kernel
theorem mwX10_begin_3 : Cond.fieldLink RX10 45 "LadleKings$TextReader" "tape" "LLadleKings$Tape;" ∈ wsX10_begin := by decide +kernel
theorem mwX10_begin_4 : Cond.fieldLink RX10 25 "LadleKings$TextReader" "faultFound" "I" ∈ wsX10_begin := by decide +kernel
theorem mwX10_begin_5 : Cond.fieldLink RX10 32 "LadleKings$TextReader" "lines" "I" ∈ wsX10_begin := by decide +kernel
theorem mwX10_begin_6 : Cond.fieldLink RX10 35 "LadleKings$TextReader" "met" "I" ∈ wsX10_begin := by decide +kernel
theorem mwX10_begin_7 : Cond.fieldLink RX10 38 "LadleKings$TextReader" "greatest" "I" ∈ wsX10_begin := by decide +kernel
set_option maxHeartbeats 8000000 in
set_option maxRecDepth 100000 in
theorem c_X10_begin (l : Launch) (D : va_G) (G : Nat → ClassId) (sz : Nat) (a_p0 : Nat) (a_p0_tape : Nat) (a_p0_rules : Nat) (a_p0_state : Nat) (a_p0_numbers : Nat) (a_p0_tape_bytes : Nat) (a_p0_rules_need : Nat) (a_p0_rules_kind : Nat) (a_p0_rules_first : Nat) (a_p0_rules_second : Nat) (a_p0_rules_after : Nat) (a_p0_state_pieces : Nat) (a_p0_state_friends : Nat) (a_p0_state_spoons : Nat) (a_p0_state_eaten : Nat) (a_p0_state_seen : Nat) (i_p0_faultFound : Int32) (i_p0_faultPlace : Int32) (i_p0_lines : Int32) (i_p0_met : Int32) (i_p0_greatest : Int32) (i_p0_tape_length : Int32) (i_p0_tape_at : Int32) (i_p0_tape_token : Int32) (i_p0_tape_start : Int32) (i_p0_tape_value : Int32) (i_p0_rules_seats : Int32) (i_p0_rules_stirs : Int32) (v_p0_rules_need : (Nat → Int32)) (i_p0_state_seenDays : Int32) (i_p0_state_bone : Int32) (i_p0_state_king : Int32) (i_p0_state_days : Int32) (v_p0_state_pieces : (Nat → Int32)) (v_p0_state_friends : (Nat → Int32)) (v_p0_state_spoons : (Nat → Int32)) (v_p0_state_eaten : (Nat → Int32)) (o_i_p0_faultFound : Int32) (o_i_p0_lines : Int32) (o_i_p0_met : Int32) (o_i_p0_greatest : Int32) (o_i_p0_tape_at : Int32) (o_i_p0_rules_seats : Int32) (o_i_p0_rules_stirs : Int32) (o_v_p0_rules_need : (Nat → Int32)) (o_i_p0_state_seenDays : Int32) (o_i_p0_state_bone : Int32) (o_i_p0_state_king : Int32) (o_i_p0_state_days : Int32) (o_v_p0_state_pieces : (Nat → Int32)) (o_v_p0_state_friends : (Nat → Int32)) (o_v_p0_state_spoons : (Nat → Int32)) (o_v_p0_state_eaten : (Nat → Int32)) (hf : f_X10_begin v_p0_rules_need v_p0_state_pieces v_p0_state_friends v_p0_state_spoons v_p0_state_eaten = some (o_i_p0_faultFound, o_i_p0_lines, o_i_p0_met, o_i_p0_greatest, o_i_p0_tape_at, o_i_p0_rules_seats, o_i_p0_rules_stirs, o_v_p0_rules_need, o_i_p0_state_seenDays, o_i_p0_state_bone, o_i_p0_state_king, o_i_p0_state_days, o_v_p0_state_pieces, o_v_p0_state_friends, o_v_p0_state_spoons, o_v_p0_state_eaten)) : Met l yX10_begin wsX10_begin rm_X10_begin (pcG D G [.ref a_p0] sz [(a_p0, .inr (10, [.ref a_p0_tape, .ref a_p0_rules, .ref a_p0_state, .int i_p0_faultFound, .int i_p0_faultPlace, .int i_p0_lines, .int i_p0_met, .int i_p0_greatest, .ref a_p0_numbers])), (a_p0_tape, .inr (9, [.ref a_p0_tape_bytes, .int i_p0_tape_length, .int i_p0_tape_at, .int i_p0_tape_token, .int i_p0_tape_start, .int i_p0_tape_value])), (a_p0_rules, .inr (6, [.int i_p0_rules_seats, .int i_p0_rules_stirs, .ref a_p0_rules_need, .ref a_p0_rules_kind, .ref a_p0_rules_first, .ref a_p0_rules_second, .ref a_p0_rules_after])), (a_p0_rules_need, .inl (G 1, 7, .inl v_p0_rules_need)), (a_p0_state, .inr (8, [.ref a_p0_state_pieces, .ref a_p0_state_friends, .ref a_p0_state_spoons, .ref a_p0_state_eaten, .ref a_p0_state_seen, .int i_p0_state_seenDays, .int i_p0_state_bone, .int i_p0_state_king, .int i_p0_state_days])), (a_p0_state_pieces, .inl (G 1, 7, .inl v_p0_state_pieces)), (a_p0_state_friends, .inl (G 1, 7, .inl v_p0_state_friends)), (a_p0_state_spoons, .inl (G 1, 7, .inl v_p0_state_spoons)), (a_p0_state_eaten, .inl (G 1, 7, .inl v_p0_state_eaten))]) (qcV D G [(a_p0, .inr (10, [.ref a_p0_tape, .ref a_p0_rules, .ref a_p0_state, .int o_i_p0_faultFound, .int i_p0_faultPlace, .int o_i_p0_lines, .int o_i_p0_met, .int o_i_p0_greatest, .ref a_p0_numbers])), (a_p0_tape, .inr (9, [.ref a_p0_tape_bytes, .int i_p0_tape_length, .int o_i_p0_tape_at, .int i_p0_tape_token, .int i_p0_tape_start, .int i_p0_tape_value])), (a_p0_rules, .inr (6, [.int o_i_p0_rules_seats, .int o_i_p0_rules_stirs, .ref a_p0_rules_need, .ref a_p0_rules_kind, .ref a_p0_rules_first, .ref a_p0_rules_second, .ref a_p0_rules_after])), (a_p0_rules_need, .inl (G 1, 7, .inl o_v_p0_rules_need)), (a_p0_state, .inr (8, [.ref a_p0_state_pieces, .ref a_p0_state_friends, .ref a_p0_state_spoons, .ref a_p0_state_eaten, .ref a_p0_state_seen, .int o_i_p0_state_seenDays, .int o_i_p0_state_bone, .int o_i_p0_state_king, .int o_i_p0_state_days])), (a_p0_state_pieces, .inl (G 1, 7, .inl o_v_p0_state_pieces)), (a_p0_state_friends, .inl (G 1, 7, .inl o_v_p0_state_friends)), (a_p0_state_spoons, .inl (G 1, 7, .inl o_v_p0_state_spoons)), (a_p0_state_eaten, .inl (G 1, 7, .inl o_v_p0_state_eaten))] (va_A [(a_p0, .inr (10, [.ref a_p0_tape, .ref a_p0_rules, .ref a_p0_state, .int i_p0_faultFound, .int i_p0_faultPlace, .int i_p0_lines, .int i_p0_met, .int i_p0_greatest, .ref a_p0_numbers])), (a_p0_tape, .inr (9, [.ref a_p0_tape_bytes, .int i_p0_tape_length, .int i_p0_tape_at, .int i_p0_tape_token, .int i_p0_tape_start, .int i_p0_tape_value])), (a_p0_rules, .inr (6, [.int i_p0_rules_seats, .int i_p0_rules_stirs, .ref a_p0_rules_need, .ref a_p0_rules_kind, .ref a_p0_rules_first, .ref a_p0_rules_second, .ref a_p0_rules_after])), (a_p0_rules_need, .inl (G 1, 7, .inl v_p0_rules_need)), (a_p0_state, .inr (8, [.ref a_p0_state_pieces, .ref a_p0_state_friends, .ref a_p0_state_spoons, .ref a_p0_state_eaten, .ref a_p0_state_seen, .int i_p0_state_seenDays, .int i_p0_state_bone, .int i_p0_state_king, .int i_p0_state_days])), (a_p0_state_pieces, .inl (G 1, 7, .inl v_p0_state_pieces)), (a_p0_state_friends, .inl (G 1, 7, .inl v_p0_state_friends)), (a_p0_state_spoons, .inl (G 1, 7, .inl v_p0_state_spoons)), (a_p0_state_eaten, .inl (G 1, 7, .inl v_p0_state_eaten))] sz)) 0 0 (va_A [(a_p0, .inr (10, [.ref a_p0_tape, .ref a_p0_rules, .ref a_p0_state, .int i_p0_faultFound, .int i_p0_faultPlace, .int i_p0_lines, .int i_p0_met, .int i_p0_greatest, .ref a_p0_numbers])), (a_p0_tape, .inr (9, [.ref a_p0_tape_bytes, .int i_p0_tape_length, .int i_p0_tape_at, .int i_p0_tape_token, .int i_p0_tape_start, .int i_p0_tape_value])), (a_p0_rules, .inr (6, [.int i_p0_rules_seats, .int i_p0_rules_stirs, .ref a_p0_rules_need, .ref a_p0_rules_kind, .ref a_p0_rules_first, .ref a_p0_rules_second, .ref a_p0_rules_after])), (a_p0_rules_need, .inl (G 1, 7, .inl v_p0_rules_need)), (a_p0_state, .inr (8, [.ref a_p0_state_pieces, .ref a_p0_state_friends, .ref a_p0_state_spoons, .ref a_p0_state_eaten, .ref a_p0_state_seen, .int i_p0_state_seenDays, .int i_p0_state_bone, .int i_p0_state_king, .int i_p0_state_days])), (a_p0_state_pieces, .inl (G 1, 7, .inl v_p0_state_pieces)), (a_p0_state_friends, .inl (G 1, 7, .inl v_p0_state_friends)), (a_p0_state_spoons, .inl (G 1, 7, .inl v_p0_state_spoons)), (a_p0_state_eaten, .inl (G 1, 7, .inl v_p0_state_eaten))] sz) := by
  refine Met.ofW (cc := cX10_begin) (maxL := 1) (ret := none) (by decide) rfl ?_
  intro p e s m args below meth c s₁ B hml hv
  obtain ⟨rfl, hsz, hP, hK, hD0⟩ := hv
  have hx := B.exec
  have hb := B.bytes
  have hr := B.returns
  have hts := atoms_spec (ws := wsX10_begin) B.pre
  have hown : s.vm.findClass RX10 = some m.cls := findClass_of_methodNamed B.named
  have hlocks := B.notSynchronized
  subst hsz
  have hD := hD0.self (sz := s.heap.size)
  generalize hAe : va_A [(a_p0, .inr (10, [.ref a_p0_tape, .ref a_p0_rules, .ref a_p0_state, .int i_p0_faultFound, .int i_p0_faultPlace, .int i_p0_lines, .int i_p0_met, .int i_p0_greatest, .ref a_p0_numbers])), (a_p0_tape, .inr (9, [.ref a_p0_tape_bytes, .int i_p0_tape_length, .int i_p0_tape_at, .int i_p0_tape_token, .int i_p0_tape_start, .int i_p0_tape_value])), (a_p0_rules, .inr (6, [.int i_p0_rules_seats, .int i_p0_rules_stirs, .ref a_p0_rules_need, .ref a_p0_rules_kind, .ref a_p0_rules_first, .ref a_p0_rules_second, .ref a_p0_rules_after])), (a_p0_rules_need, .inl (G 1, 7, .inl v_p0_rules_need)), (a_p0_state, .inr (8, [.ref a_p0_state_pieces, .ref a_p0_state_friends, .ref a_p0_state_spoons, .ref a_p0_state_eaten, .ref a_p0_state_seen, .int i_p0_state_seenDays, .int i_p0_state_bone, .int i_p0_state_king, .int i_p0_state_days])), (a_p0_state_pieces, .inl (G 1, 7, .inl v_p0_state_pieces)), (a_p0_state_friends, .inl (G 1, 7, .inl v_p0_state_friends)), (a_p0_state_spoons, .inl (G 1, 7, .inl v_p0_state_spoons)), (a_p0_state_eaten, .inl (G 1, 7, .inl v_p0_state_eaten))] s.heap.size = A at hD ⊢
  have hA : ∀ q : Nat, s.heap.size ≤ q → A q := fun q h => by rw [← hAe]; exact Or.inr h
  clear hAe hD0
  have hS : va_S A s.heap s.heap [] := va_S.rf
  have hl := lv_entry ([.ref a_p0]) (n := 1) (Nat.le_of_ble_eq_true rfl)
  rw [lg_entry_eq]
  generalize (lg_sl ([.ref a_p0]) ++ List.replicate (1 - (lg_sl ([.ref a_p0])).length) Slot.unset).toArray = ls at hl ⊢
  have hl : lv_has ls 1 [(0, .ref a_p0)] := hl
  refine W_nameQ (fun Q hQ => ?_)
  obtain ⟨H, hH⟩ : ∃ H, H = s.heap := ⟨_, rfl⟩
  replace hS : va_S A s.heap H [] := by rw [hH]; exact hS
  replace hP : va_P D vwCl [(a_p0, .inr (10, [.ref a_p0_tape, .ref a_p0_rules, .ref a_p0_state, .int i_p0_faultFound, .int i_p0_faultPlace, .int i_p0_lines, .int i_p0_met, .int i_p0_greatest, .ref a_p0_numbers])), (a_p0_tape, .inr (9, [.ref a_p0_tape_bytes, .int i_p0_tape_length, .int i_p0_tape_at, .int i_p0_tape_token, .int i_p0_tape_start, .int i_p0_tape_value])), (a_p0_rules, .inr (6, [.int i_p0_rules_seats, .int i_p0_rules_stirs, .ref a_p0_rules_need, .ref a_p0_rules_kind, .ref a_p0_rules_first, .ref a_p0_rules_second, .ref a_p0_rules_after])), (a_p0_rules_need, .inl (G 1, 7, .inl v_p0_rules_need)), (a_p0_state, .inr (8, [.ref a_p0_state_pieces, .ref a_p0_state_friends, .ref a_p0_state_spoons, .ref a_p0_state_eaten, .ref a_p0_state_seen, .int i_p0_state_seenDays, .int i_p0_state_bone, .int i_p0_state_king, .int i_p0_state_days])), (a_p0_state_pieces, .inl (G 1, 7, .inl v_p0_state_pieces)), (a_p0_state_friends, .inl (G 1, 7, .inl v_p0_state_friends)), (a_p0_state_spoons, .inl (G 1, 7, .inl v_p0_state_spoons)), (a_p0_state_eaten, .inl (G 1, 7, .inl v_p0_state_eaten))] H := by rw [hH]; exact hP
  rw [← hH]
  clear hH
  unfold f_X10_begin at hf
  refine lv_aload_n hx hb dX10_begin_0 rfl (lv_at hl 0 rfl) ?_
  refine va_get (D := D) (ci := 10) (v := .ref a_p0_rules) (C := RX10) (T := TX10) (N := 9) hx hb hts inX10_begin_X10 hown hK hP 0 rfl rfl 1 (by decide) (hts _ mwX10_begin_1) (fun _ h9 => h9) rfl dX10_begin_1 ?_
  have hq := bd3_s hf
  clear hf
  obtain ⟨z1, z2, w3, hcall, hf⟩ := hq
  refine gcV (ws' := [(a_p0, .inr (10, [.ref a_p0_tape, .ref a_p0_rules, .ref a_p0_state, .int i_p0_faultFound, .int i_p0_faultPlace, .int i_p0_lines, .int i_p0_met, .int i_p0_greatest, .ref a_p0_numbers])), (a_p0_tape, .inr (9, [.ref a_p0_tape_bytes, .int i_p0_tape_length, .int i_p0_tape_at, .int i_p0_tape_token, .int i_p0_tape_start, .int i_p0_tape_value])), (a_p0_rules, .inr (6, [.int z1, .int z2, .ref a_p0_rules_need, .ref a_p0_rules_kind, .ref a_p0_rules_first, .ref a_p0_rules_second, .ref a_p0_rules_after])), (a_p0_rules_need, .inl (G 1, 7, .inl w3)), (a_p0_state, .inr (8, [.ref a_p0_state_pieces, .ref a_p0_state_friends, .ref a_p0_state_spoons, .ref a_p0_state_eaten, .ref a_p0_state_seen, .int i_p0_state_seenDays, .int i_p0_state_bone, .int i_p0_state_king, .int i_p0_state_days])), (a_p0_state_pieces, .inl (G 1, 7, .inl v_p0_state_pieces)), (a_p0_state_friends, .inl (G 1, 7, .inl v_p0_state_friends)), (a_p0_state_spoons, .inl (G 1, 7, .inl v_p0_state_spoons)), (a_p0_state_eaten, .inl (G 1, 7, .inl v_p0_state_eaten))]) (va_runV (As := []) (rest := []) ⟨hx, hb, hml, hown, hts⟩ (c_X6_reset (l := l) (D := D) (G := G) (sz := H.size) (a_p0 := a_p0_rules) (a_p0_need := a_p0_rules_need) (a_p0_kind := a_p0_rules_kind) (a_p0_first := a_p0_rules_first) (a_p0_second := a_p0_rules_second) (a_p0_after := a_p0_rules_after) (i_p0_seats := i_p0_rules_seats) (i_p0_stirs := i_p0_rules_stirs) (v_p0_need := v_p0_rules_need) (o_i_p0_seats := z1) (o_i_p0_stirs := z2) (o_v_p0_need := w3) (hf := hcall)) (cwV 0 hts gX10_begin_X6_reset rfl rfl rfl (by decide +kernel) ⟨Nat.le_of_ble_eq_true rfl, Nat.le_of_ble_eq_true rfl⟩) (preG_V (ci := 6) (hP.sub [2, 3] rfl) (hD.sub [2, 3] rfl rfl) hK rfl rfl) rfl rfl hl.1 rfl (lv_room (Nat.le_of_ble_eq_true rfl)) dX10_begin_4 ⟨Nat.le_of_ble_eq_true rfl, Nat.le_of_ble_eq_true rfl⟩) hP hD hS hA [2, 3] [0, 1, 4, 5, 6, 7, 8] [0, 1, 7, 8, 2, 3, 4, 5, 6] rfl rfl rfl (by decide) rfl rfl rfl (fun H locs hP hD hS => ?_)
  clear hcall
  refine lv_aload_n hx hb dX10_begin_7 rfl (lv_at hl 0 rfl) ?_
  refine va_get (D := D) (ci := 10) (v := .ref a_p0_state) (C := RX10) (T := TX10) (N := 9) hx hb hts inX10_begin_X10 hown hK hP 0 rfl rfl 2 (by decide) (hts _ mwX10_begin_2) (fun _ h9 => h9) rfl dX10_begin_8 ?_
  have hq := bd8_s hf
  clear hf
  obtain ⟨z4, z5, z6, z7, w8, w9, w10, w11, hcall, hf⟩ := hq
  refine gcV (ws' := [(a_p0, .inr (10, [.ref a_p0_tape, .ref a_p0_rules, .ref a_p0_state, .int i_p0_faultFound, .int i_p0_faultPlace, .int i_p0_lines, .int i_p0_met, .int i_p0_greatest, .ref a_p0_numbers])), (a_p0_tape, .inr (9, [.ref a_p0_tape_bytes, .int i_p0_tape_length, .int i_p0_tape_at, .int i_p0_tape_token, .int i_p0_tape_start, .int i_p0_tape_value])), (a_p0_rules, .inr (6, [.int z1, .int z2, .ref a_p0_rules_need, .ref a_p0_rules_kind, .ref a_p0_rules_first, .ref a_p0_rules_second, .ref a_p0_rules_after])), (a_p0_rules_need, .inl (G 1, 7, .inl w3)), (a_p0_state, .inr (8, [.ref a_p0_state_pieces, .ref a_p0_state_friends, .ref a_p0_state_spoons, .ref a_p0_state_eaten, .ref a_p0_state_seen, .int z4, .int z5, .int z6, .int z7])), (a_p0_state_pieces, .inl (G 1, 7, .inl w8)), (a_p0_state_friends, .inl (G 1, 7, .inl w9)), (a_p0_state_spoons, .inl (G 1, 7, .inl w10)), (a_p0_state_eaten, .inl (G 1, 7, .inl w11))]) (va_runV (As := []) (rest := []) ⟨hx, hb, hml, hown, hts⟩ (c_X8_reset (l := l) (D := D) (G := G) (sz := H.size) (a_p0 := a_p0_state) (a_p0_pieces := a_p0_state_pieces) (a_p0_friends := a_p0_state_friends) (a_p0_spoons := a_p0_state_spoons) (a_p0_eaten := a_p0_state_eaten) (a_p0_seen := a_p0_state_seen) (i_p0_seenDays := i_p0_state_seenDays) (i_p0_bone := i_p0_state_bone) (i_p0_king := i_p0_state_king) (i_p0_days := i_p0_state_days) (v_p0_pieces := v_p0_state_pieces) (v_p0_friends := v_p0_state_friends) (v_p0_spoons := v_p0_state_spoons) (v_p0_eaten := v_p0_state_eaten) (o_i_p0_seenDays := z4) (o_i_p0_bone := z5) (o_i_p0_king := z6) (o_i_p0_days := z7) (o_v_p0_pieces := w8) (o_v_p0_friends := w9) (o_v_p0_spoons := w10) (o_v_p0_eaten := w11) (hf := hcall)) (cwV 0 hts gX10_begin_X8_reset rfl rfl rfl (by decide +kernel) ⟨Nat.le_of_ble_eq_true rfl, Nat.le_of_ble_eq_true rfl⟩) (preG_V (ci := 8) (hP.sub [4, 5, 6, 7, 8] rfl) (hD.sub [4, 5, 6, 7, 8] rfl rfl) hK rfl rfl) rfl rfl hl.1 rfl (lv_room (Nat.le_of_ble_eq_true rfl)) dX10_begin_11 ⟨Nat.le_of_ble_eq_true rfl, Nat.le_of_ble_eq_true rfl⟩) hP hD hS hA [4, 5, 6, 7, 8] [0, 1, 2, 3] [0, 1, 2, 3, 4, 5, 6, 7, 8] rfl rfl rfl (by decide) rfl rfl rfl (fun H locs hP hD hS => ?_)
  clear hcall
  refine lv_aload_n hx hb dX10_begin_14 rfl (lv_at hl 0 rfl) ?_
  refine va_get (D := D) (ci := 10) (v := .ref a_p0_tape) (C := RX10) (T := TX10) (N := 9) hx hb hts inX10_begin_X10 hown hK hP 0 rfl rfl 0 (by decide) (hts _ mwX10_begin_3) (fun _ h9 => h9) rfl dX10_begin_15 ?_
  have hq := bd1_s hf
  clear hf
  obtain ⟨z12, hcall, hf⟩ := hq
  refine gcV (ws' := [(a_p0, .inr (10, [.ref a_p0_tape, .ref a_p0_rules, .ref a_p0_state, .int i_p0_faultFound, .int i_p0_faultPlace, .int i_p0_lines, .int i_p0_met, .int i_p0_greatest, .ref a_p0_numbers])), (a_p0_tape, .inr (9, [.ref a_p0_tape_bytes, .int i_p0_tape_length, .int z12, .int i_p0_tape_token, .int i_p0_tape_start, .int i_p0_tape_value])), (a_p0_rules, .inr (6, [.int z1, .int z2, .ref a_p0_rules_need, .ref a_p0_rules_kind, .ref a_p0_rules_first, .ref a_p0_rules_second, .ref a_p0_rules_after])), (a_p0_rules_need, .inl (G 1, 7, .inl w3)), (a_p0_state, .inr (8, [.ref a_p0_state_pieces, .ref a_p0_state_friends, .ref a_p0_state_spoons, .ref a_p0_state_eaten, .ref a_p0_state_seen, .int z4, .int z5, .int z6, .int z7])), (a_p0_state_pieces, .inl (G 1, 7, .inl w8)), (a_p0_state_friends, .inl (G 1, 7, .inl w9)), (a_p0_state_spoons, .inl (G 1, 7, .inl w10)), (a_p0_state_eaten, .inl (G 1, 7, .inl w11))]) (va_runV (As := []) (rest := []) ⟨hx, hb, hml, hown, hts⟩ (c_X9_rewind (l := l) (D := D) (G := G) (sz := H.size) (a_p0 := a_p0_tape) (a_p0_bytes := a_p0_tape_bytes) (i_p0_length := i_p0_tape_length) (i_p0_at := i_p0_tape_at) (i_p0_token := i_p0_tape_token) (i_p0_start := i_p0_tape_start) (i_p0_value := i_p0_tape_value) (o_i_p0_at := z12) (hf := hcall)) (cwV 0 hts gX10_begin_X9_rewind rfl rfl rfl (by decide +kernel) ⟨Nat.le_of_ble_eq_true rfl, Nat.le_of_ble_eq_true rfl⟩) (preG_V (ci := 9) (hP.sub [1] rfl) (hD.sub [1] rfl rfl) hK rfl rfl) rfl rfl hl.1 rfl (lv_room (Nat.le_of_ble_eq_true rfl)) dX10_begin_18 ⟨Nat.le_of_ble_eq_true rfl, Nat.le_of_ble_eq_true rfl⟩) hP hD hS hA [1] [0, 2, 3, 4, 5, 6, 7, 8] [0, 8, 1, 2, 3, 4, 5, 6, 7] rfl rfl rfl (by decide) rfl rfl rfl (fun H locs hP hD hS => ?_)
  clear hcall
  refine lv_aload_n hx hb dX10_begin_21 rfl (lv_at hl 0 rfl) ?_
  refine lv_iconst (v := (0 : Int32)) hx hb dX10_begin_22 (by decide) ?_
  refine lv_topi (fun z13 ez => ?_)
  replace hf := bnd_s hf ez
  clear ez
  refine va_put (D := D) (ci := 10) (v := .int z13) (ty := .int) (C := RX10) (T := TX10) (N := 9) hx hb hts inX10_begin_X10 tyX10 tyX10_ok nmX10 hown hK hP hD hS 0 rfl rfl 3 (by decide) (hts _ mwX10_begin_4) (fun _ h9 => h9) rfl (by decide +kernel) rfl rfl (Nat.le_of_ble_eq_true rfl) dX10_begin_23 (fun H locs hP hD hS => ?_)
  have hP : va_P D vwCl [(a_p0, .inr (10, [.ref a_p0_tape, .ref a_p0_rules, .ref a_p0_state, .int z13, .int i_p0_faultPlace, .int i_p0_lines, .int i_p0_met, .int i_p0_greatest, .ref a_p0_numbers])), (a_p0_tape, .inr (9, [.ref a_p0_tape_bytes, .int i_p0_tape_length, .int z12, .int i_p0_tape_token, .int i_p0_tape_start, .int i_p0_tape_value])), (a_p0_rules, .inr (6, [.int z1, .int z2, .ref a_p0_rules_need, .ref a_p0_rules_kind, .ref a_p0_rules_first, .ref a_p0_rules_second, .ref a_p0_rules_after])), (a_p0_rules_need, .inl (G 1, 7, .inl w3)), (a_p0_state, .inr (8, [.ref a_p0_state_pieces, .ref a_p0_state_friends, .ref a_p0_state_spoons, .ref a_p0_state_eaten, .ref a_p0_state_seen, .int z4, .int z5, .int z6, .int z7])), (a_p0_state_pieces, .inl (G 1, 7, .inl w8)), (a_p0_state_friends, .inl (G 1, 7, .inl w9)), (a_p0_state_spoons, .inl (G 1, 7, .inl w10)), (a_p0_state_eaten, .inl (G 1, 7, .inl w11))] H := hP
  have hD : va_D A [(a_p0, .inr (10, [.ref a_p0_tape, .ref a_p0_rules, .ref a_p0_state, .int z13, .int i_p0_faultPlace, .int i_p0_lines, .int i_p0_met, .int i_p0_greatest, .ref a_p0_numbers])), (a_p0_tape, .inr (9, [.ref a_p0_tape_bytes, .int i_p0_tape_length, .int z12, .int i_p0_tape_token, .int i_p0_tape_start, .int i_p0_tape_value])), (a_p0_rules, .inr (6, [.int z1, .int z2, .ref a_p0_rules_need, .ref a_p0_rules_kind, .ref a_p0_rules_first, .ref a_p0_rules_second, .ref a_p0_rules_after])), (a_p0_rules_need, .inl (G 1, 7, .inl w3)), (a_p0_state, .inr (8, [.ref a_p0_state_pieces, .ref a_p0_state_friends, .ref a_p0_state_spoons, .ref a_p0_state_eaten, .ref a_p0_state_seen, .int z4, .int z5, .int z6, .int z7])), (a_p0_state_pieces, .inl (G 1, 7, .inl w8)), (a_p0_state_friends, .inl (G 1, 7, .inl w9)), (a_p0_state_spoons, .inl (G 1, 7, .inl w10)), (a_p0_state_eaten, .inl (G 1, 7, .inl w11))] := hD
  refine lv_aload_n hx hb dX10_begin_26 rfl (lv_at hl 0 rfl) ?_
  refine lv_iconst (v := (0 : Int32)) hx hb dX10_begin_27 (by decide) ?_
  refine lv_topi (fun z14 ez => ?_)
  replace hf := bnd_s hf ez
  clear ez
  refine va_put (D := D) (ci := 10) (v := .int z14) (ty := .int) (C := RX10) (T := TX10) (N := 9) hx hb hts inX10_begin_X10 tyX10 tyX10_ok nmX10 hown hK hP hD hS 0 rfl rfl 5 (by decide) (hts _ mwX10_begin_5) (fun _ h9 => h9) rfl (by decide +kernel) rfl rfl (Nat.le_of_ble_eq_true rfl) dX10_begin_28 (fun H locs hP hD hS => ?_)
  have hP : va_P D vwCl [(a_p0, .inr (10, [.ref a_p0_tape, .ref a_p0_rules, .ref a_p0_state, .int z13, .int i_p0_faultPlace, .int z14, .int i_p0_met, .int i_p0_greatest, .ref a_p0_numbers])), (a_p0_tape, .inr (9, [.ref a_p0_tape_bytes, .int i_p0_tape_length, .int z12, .int i_p0_tape_token, .int i_p0_tape_start, .int i_p0_tape_value])), (a_p0_rules, .inr (6, [.int z1, .int z2, .ref a_p0_rules_need, .ref a_p0_rules_kind, .ref a_p0_rules_first, .ref a_p0_rules_second, .ref a_p0_rules_after])), (a_p0_rules_need, .inl (G 1, 7, .inl w3)), (a_p0_state, .inr (8, [.ref a_p0_state_pieces, .ref a_p0_state_friends, .ref a_p0_state_spoons, .ref a_p0_state_eaten, .ref a_p0_state_seen, .int z4, .int z5, .int z6, .int z7])), (a_p0_state_pieces, .inl (G 1, 7, .inl w8)), (a_p0_state_friends, .inl (G 1, 7, .inl w9)), (a_p0_state_spoons, .inl (G 1, 7, .inl w10)), (a_p0_state_eaten, .inl (G 1, 7, .inl w11))] H := hP
  have hD : va_D A [(a_p0, .inr (10, [.ref a_p0_tape, .ref a_p0_rules, .ref a_p0_state, .int z13, .int i_p0_faultPlace, .int z14, .int i_p0_met, .int i_p0_greatest, .ref a_p0_numbers])), (a_p0_tape, .inr (9, [.ref a_p0_tape_bytes, .int i_p0_tape_length, .int z12, .int i_p0_tape_token, .int i_p0_tape_start, .int i_p0_tape_value])), (a_p0_rules, .inr (6, [.int z1, .int z2, .ref a_p0_rules_need, .ref a_p0_rules_kind, .ref a_p0_rules_first, .ref a_p0_rules_second, .ref a_p0_rules_after])), (a_p0_rules_need, .inl (G 1, 7, .inl w3)), (a_p0_state, .inr (8, [.ref a_p0_state_pieces, .ref a_p0_state_friends, .ref a_p0_state_spoons, .ref a_p0_state_eaten, .ref a_p0_state_seen, .int z4, .int z5, .int z6, .int z7])), (a_p0_state_pieces, .inl (G 1, 7, .inl w8)), (a_p0_state_friends, .inl (G 1, 7, .inl w9)), (a_p0_state_spoons, .inl (G 1, 7, .inl w10)), (a_p0_state_eaten, .inl (G 1, 7, .inl w11))] := hD
  refine lv_aload_n hx hb dX10_begin_31 rfl (lv_at hl 0 rfl) ?_
  refine lv_iconst (v := (0 : Int32)) hx hb dX10_begin_32 (by decide) ?_
  refine lv_topi (fun z15 ez => ?_)
  replace hf := bnd_s hf ez
  clear ez
  refine va_put (D := D) (ci := 10) (v := .int z15) (ty := .int) (C := RX10) (T := TX10) (N := 9) hx hb hts inX10_begin_X10 tyX10 tyX10_ok nmX10 hown hK hP hD hS 0 rfl rfl 6 (by decide) (hts _ mwX10_begin_6) (fun _ h9 => h9) rfl (by decide +kernel) rfl rfl (Nat.le_of_ble_eq_true rfl) dX10_begin_33 (fun H locs hP hD hS => ?_)
  have hP : va_P D vwCl [(a_p0, .inr (10, [.ref a_p0_tape, .ref a_p0_rules, .ref a_p0_state, .int z13, .int i_p0_faultPlace, .int z14, .int z15, .int i_p0_greatest, .ref a_p0_numbers])), (a_p0_tape, .inr (9, [.ref a_p0_tape_bytes, .int i_p0_tape_length, .int z12, .int i_p0_tape_token, .int i_p0_tape_start, .int i_p0_tape_value])), (a_p0_rules, .inr (6, [.int z1, .int z2, .ref a_p0_rules_need, .ref a_p0_rules_kind, .ref a_p0_rules_first, .ref a_p0_rules_second, .ref a_p0_rules_after])), (a_p0_rules_need, .inl (G 1, 7, .inl w3)), (a_p0_state, .inr (8, [.ref a_p0_state_pieces, .ref a_p0_state_friends, .ref a_p0_state_spoons, .ref a_p0_state_eaten, .ref a_p0_state_seen, .int z4, .int z5, .int z6, .int z7])), (a_p0_state_pieces, .inl (G 1, 7, .inl w8)), (a_p0_state_friends, .inl (G 1, 7, .inl w9)), (a_p0_state_spoons, .inl (G 1, 7, .inl w10)), (a_p0_state_eaten, .inl (G 1, 7, .inl w11))] H := hP
  have hD : va_D A [(a_p0, .inr (10, [.ref a_p0_tape, .ref a_p0_rules, .ref a_p0_state, .int z13, .int i_p0_faultPlace, .int z14, .int z15, .int i_p0_greatest, .ref a_p0_numbers])), (a_p0_tape, .inr (9, [.ref a_p0_tape_bytes, .int i_p0_tape_length, .int z12, .int i_p0_tape_token, .int i_p0_tape_start, .int i_p0_tape_value])), (a_p0_rules, .inr (6, [.int z1, .int z2, .ref a_p0_rules_need, .ref a_p0_rules_kind, .ref a_p0_rules_first, .ref a_p0_rules_second, .ref a_p0_rules_after])), (a_p0_rules_need, .inl (G 1, 7, .inl w3)), (a_p0_state, .inr (8, [.ref a_p0_state_pieces, .ref a_p0_state_friends, .ref a_p0_state_spoons, .ref a_p0_state_eaten, .ref a_p0_state_seen, .int z4, .int z5, .int z6, .int z7])), (a_p0_state_pieces, .inl (G 1, 7, .inl w8)), (a_p0_state_friends, .inl (G 1, 7, .inl w9)), (a_p0_state_spoons, .inl (G 1, 7, .inl w10)), (a_p0_state_eaten, .inl (G 1, 7, .inl w11))] := hD
  refine lv_aload_n hx hb dX10_begin_36 rfl (lv_at hl 0 rfl) ?_
  refine lv_iconst (v := (0 : Int32)) hx hb dX10_begin_37 (by decide) ?_
  refine lv_topi (fun z16 ez => ?_)
  replace hf := bnd_s hf ez
  clear ez
  refine va_put (D := D) (ci := 10) (v := .int z16) (ty := .int) (C := RX10) (T := TX10) (N := 9) hx hb hts inX10_begin_X10 tyX10 tyX10_ok nmX10 hown hK hP hD hS 0 rfl rfl 7 (by decide) (hts _ mwX10_begin_7) (fun _ h9 => h9) rfl (by decide +kernel) rfl rfl (Nat.le_of_ble_eq_true rfl) dX10_begin_38 (fun H locs hP hD hS => ?_)
  have hP : va_P D vwCl [(a_p0, .inr (10, [.ref a_p0_tape, .ref a_p0_rules, .ref a_p0_state, .int z13, .int i_p0_faultPlace, .int z14, .int z15, .int z16, .ref a_p0_numbers])), (a_p0_tape, .inr (9, [.ref a_p0_tape_bytes, .int i_p0_tape_length, .int z12, .int i_p0_tape_token, .int i_p0_tape_start, .int i_p0_tape_value])), (a_p0_rules, .inr (6, [.int z1, .int z2, .ref a_p0_rules_need, .ref a_p0_rules_kind, .ref a_p0_rules_first, .ref a_p0_rules_second, .ref a_p0_rules_after])), (a_p0_rules_need, .inl (G 1, 7, .inl w3)), (a_p0_state, .inr (8, [.ref a_p0_state_pieces, .ref a_p0_state_friends, .ref a_p0_state_spoons, .ref a_p0_state_eaten, .ref a_p0_state_seen, .int z4, .int z5, .int z6, .int z7])), (a_p0_state_pieces, .inl (G 1, 7, .inl w8)), (a_p0_state_friends, .inl (G 1, 7, .inl w9)), (a_p0_state_spoons, .inl (G 1, 7, .inl w10)), (a_p0_state_eaten, .inl (G 1, 7, .inl w11))] H := hP
  have hD : va_D A [(a_p0, .inr (10, [.ref a_p0_tape, .ref a_p0_rules, .ref a_p0_state, .int z13, .int i_p0_faultPlace, .int z14, .int z15, .int z16, .ref a_p0_numbers])), (a_p0_tape, .inr (9, [.ref a_p0_tape_bytes, .int i_p0_tape_length, .int z12, .int i_p0_tape_token, .int i_p0_tape_start, .int i_p0_tape_value])), (a_p0_rules, .inr (6, [.int z1, .int z2, .ref a_p0_rules_need, .ref a_p0_rules_kind, .ref a_p0_rules_first, .ref a_p0_rules_second, .ref a_p0_rules_after])), (a_p0_rules_need, .inl (G 1, 7, .inl w3)), (a_p0_state, .inr (8, [.ref a_p0_state_pieces, .ref a_p0_state_friends, .ref a_p0_state_spoons, .ref a_p0_state_eaten, .ref a_p0_state_seen, .int z4, .int z5, .int z6, .int z7])), (a_p0_state_pieces, .inl (G 1, 7, .inl w8)), (a_p0_state_friends, .inl (G 1, 7, .inl w9)), (a_p0_state_spoons, .inl (G 1, 7, .inl w10)), (a_p0_state_eaten, .inl (G 1, 7, .inl w11))] := hD
  obtain ⟨rfl, rfl, rfl, rfl, rfl, rfl, rfl, rfl, rfl, rfl, rfl, rfl, rfl, rfl, rfl, rfl⟩ := ou16 hf
  rw [hQ]
  exact W.vret hx hb hr (fun t ht hW => ⟨⟨(), rfl, trivial, by rw [ht]; exact hP, va_K.moved hW.alike hK, hD⟩, hS.F ht⟩) hS.2.2 dX10_begin_41

noncomputable def f_X10_refuse (x1 : Int32) (x2 : Int32) : Option (Int32 × Int32 × Int32) := (bnd x1 (fun (z1 : Int32) => (bnd x2 (fun (z2 : Int32) => (some ((0 : Int32), z1, z2))))))
abbrev rm_X10_refuse : Room := { frames := 0, cells := 0, slots := 0, locals := 0 }
theorem inX10_refuse_X10 : ∀ w ∈ wsX100, w ∈ wsX10_refuse := by decide +kernel
theorem mwX10_refuse_1 : Cond.fieldLink RX10 25 "LadleKings$TextReader" "faultFound" "I" ∈ wsX10_refuse := by decide +kernel
theorem mwX10_refuse_2 : Cond.fieldLink RX10 29 "LadleKings$TextReader" "faultPlace" "I" ∈ wsX10_refuse := by decide +kernel
set_option maxHeartbeats 8000000 in
set_option maxRecDepth 100000 in
theorem c_X10_refuse (l : Launch) (D : va_G) (G : Nat → ClassId) (sz : Nat) (a_p0 : Nat) (a_p0_tape : Nat) (a_p0_rules : Nat) (a_p0_state : Nat) (a_p0_numbers : Nat) (i_p0_faultFound : Int32) (i_p0_faultPlace : Int32) (i_p0_lines : Int32) (i_p0_met : Int32) (i_p0_greatest : Int32) (x1 : Int32) (x2 : Int32) (r : Int32) (o_i_p0_faultFound : Int32) (o_i_p0_faultPlace : Int32) (hf : f_X10_refuse x1 x2 = some (r, o_i_p0_faultFound, o_i_p0_faultPlace)) : Met l yX10_refuse wsX10_refuse rm_X10_refuse (pcG D G [.ref a_p0, .int x1, .int x2] sz [(a_p0, .inr (10, [.ref a_p0_tape, .ref a_p0_rules, .ref a_p0_state, .int i_p0_faultFound, .int i_p0_faultPlace, .int i_p0_lines, .int i_p0_met, .int i_p0_greatest, .ref a_p0_numbers]))]) (qcI D G r [(a_p0, .inr (10, [.ref a_p0_tape, .ref a_p0_rules, .ref a_p0_state, .int o_i_p0_faultFound, .int o_i_p0_faultPlace, .int i_p0_lines, .int i_p0_met, .int i_p0_greatest, .ref a_p0_numbers]))] (va_A [(a_p0, .inr (10, [.ref a_p0_tape, .ref a_p0_rules, .ref a_p0_state, .int i_p0_faultFound, .int i_p0_faultPlace, .int i_p0_lines, .int i_p0_met, .int i_p0_greatest, .ref a_p0_numbers]))] sz)) 0 0 (va_A [(a_p0, .inr (10, [.ref a_p0_tape, .ref a_p0_rules, .ref a_p0_state, .int i_p0_faultFound, .int i_p0_faultPlace, .int i_p0_lines, .int i_p0_met, .int i_p0_greatest, .ref a_p0_numbers]))] sz) := by
  refine Met.ofW (cc := cX10_refuse) (maxL := 3) (ret := (some .boolean)) (by decide) rfl ?_
  intro p e s m args below meth c s₁ B hml hv
  obtain ⟨rfl, hsz, hP, hK, hD0⟩ := hv
  have hx := B.exec
  have hb := B.bytes
  have hr := B.returns
  have hts := atoms_spec (ws := wsX10_refuse) B.pre
  have hown : s.vm.findClass RX10 = some m.cls := findClass_of_methodNamed B.named
  have hlocks := B.notSynchronized
  subst hsz
  have hD := hD0.self (sz := s.heap.size)
  generalize hAe : va_A [(a_p0, .inr (10, [.ref a_p0_tape, .ref a_p0_rules, .ref a_p0_state, .int i_p0_faultFound, .int i_p0_faultPlace, .int i_p0_lines, .int i_p0_met, .int i_p0_greatest, .ref a_p0_numbers]))] s.heap.size = A at hD ⊢
  have hA : ∀ q : Nat, s.heap.size ≤ q → A q := fun q h => by rw [← hAe]; exact Or.inr h
  clear hAe hD0
  have hS : va_S A s.heap s.heap [] := va_S.rf
  have hl := lv_entry ([.ref a_p0, .int x1, .int x2]) (n := 3) (Nat.le_of_ble_eq_true rfl)
  rw [lg_entry_eq]
  generalize (lg_sl ([.ref a_p0, .int x1, .int x2]) ++ List.replicate (3 - (lg_sl ([.ref a_p0, .int x1, .int x2])).length) Slot.unset).toArray = ls at hl ⊢
  have hl : lv_has ls 3 [(0, .ref a_p0), (1, .int x1), (2, .int x2)] := hl
  refine W_nameQ (fun Q hQ => ?_)
  obtain ⟨H, hH⟩ : ∃ H, H = s.heap := ⟨_, rfl⟩
  replace hS : va_S A s.heap H [] := by rw [hH]; exact hS
  replace hP : va_P D vwCl [(a_p0, .inr (10, [.ref a_p0_tape, .ref a_p0_rules, .ref a_p0_state, .int i_p0_faultFound, .int i_p0_faultPlace, .int i_p0_lines, .int i_p0_met, .int i_p0_greatest, .ref a_p0_numbers]))] H := by rw [hH]; exact hP
  rw [← hH]
  clear hH
  unfold f_X10_refuse at hf
  refine lv_aload_n hx hb dX10_refuse_0 rfl (lv_at hl 0 rfl) ?_
  refine lv_iload_n hx hb dX10_refuse_1 rfl (lv_at hl 1 rfl) ?_
  refine lv_topi (fun z1 ez => ?_)
  replace hf := bnd_s hf ez
  clear ez
  refine va_put (D := D) (ci := 10) (v := .int z1) (ty := .int) (C := RX10) (T := TX10) (N := 9) hx hb hts inX10_refuse_X10 tyX10 tyX10_ok nmX10 hown hK hP hD hS 0 rfl rfl 3 (by decide) (hts _ mwX10_refuse_1) (fun _ h9 => h9) rfl (by decide +kernel) rfl rfl (Nat.le_of_ble_eq_true rfl) dX10_refuse_2 (fun H locs hP hD hS => ?_)
  have hP : va_P D vwCl [(a_p0, .inr (10, [.ref a_p0_tape, .ref a_p0_rules, .ref a_p0_state, .int z1, .int i_p0_faultPlace, .int i_p0_lines, .int i_p0_met, .int i_p0_greatest, .ref a_p0_numbers]))] H := hP
  have hD : va_D A [(a_p0, .inr (10, [.ref a_p0_tape, .ref a_p0_rules, .ref a_p0_state, .int z1, .int i_p0_faultPlace, .int i_p0_lines, .int i_p0_met, .int i_p0_greatest, .ref a_p0_numbers]))] := hD
  refine lv_aload_n hx hb dX10_refuse_5 rfl (lv_at hl 0 rfl) ?_
  refine lv_iload_n hx hb dX10_refuse_6 rfl (lv_at hl 2 rfl) ?_
  refine lv_topi (fun z2 ez => ?_)
  replace hf := bnd_s hf ez
  clear ez
  refine va_put (D := D) (ci := 10) (v := .int z2) (ty := .int) (C := RX10) (T := TX10) (N := 9) hx hb hts inX10_refuse_X10 tyX10 tyX10_ok nmX10 hown hK hP hD hS 0 rfl rfl 4 (by decide) (hts _ mwX10_refuse_2) (fun _ h9 => h9) rfl (by decide +kernel) rfl rfl (Nat.le_of_ble_eq_true rfl) dX10_refuse_7 (fun H locs hP hD hS => ?_)
  have hP : va_P D vwCl [(a_p0, .inr (10, [.ref a_p0_tape, .ref a_p0_rules, .ref a_p0_state, .int z1, .int z2, .int i_p0_lines, .int i_p0_met, .int i_p0_greatest, .ref a_p0_numbers]))] H := hP
  have hD : va_D A [(a_p0, .inr (10, [.ref a_p0_tape, .ref a_p0_rules, .ref a_p0_state, .int z1, .int z2, .int i_p0_lines, .int i_p0_met, .int i_p0_greatest, .ref a_p0_numbers]))] := hD
  refine lv_iconst (v := (0 : Int32)) hx hb dX10_refuse_10 (by decide) ?_
  obtain ⟨rfl, rfl, rfl⟩ := ou3 hf
  rw [hQ]
  exact W.zret hx hb hr rfl (fun t ht hW => ⟨⟨_, (), rfl, rfl, by rw [ht]; exact hP, va_K.moved hW.alike hK, hD⟩, hS.F ht⟩) hS.2.2 dX10_refuse_11

noncomputable def f_X10_readLine (i_p0_tape_length : Int32) (i_p0_tape_at : Int32) (v_p0_tape_bytes : (Nat → Int32)) : Option (Int32 × Int32 × Int32 × Int32) := (bd3 (f_X9_readToken i_p0_tape_length i_p0_tape_at v_p0_tape_bytes) (fun (z1 : Int32) (z2 : Int32) (z3 : Int32) => (if z2 = 0 then (some ((0 : Int32), z1, z2, z3)) else none)))
abbrev rm_X10_readLine : Room := { frames := 1, cells := 0, slots := 0, locals := 20 }
theorem inX10_readLine_X10 : ∀ w ∈ wsX100, w ∈ wsX10_readLine := by decide +kernel
theorem mwX10_readLine_1 : Cond.fieldLink RX10 45 "LadleKings$TextReader" "tape" "LLadleKings$Tape;" ∈ wsX10_readLine := by decide +kernel
theorem inX10_readLine_X9 : ∀ w ∈ wsX90, w ∈ wsX10_readLine := by decide +kernel
theorem mwX10_readLine_3 : Cond.fieldLink RX10 81 "LadleKings$Tape" "token" "I" ∈ wsX10_readLine := by decide +kernel
set_option maxHeartbeats 8000000 in
set_option maxRecDepth 100000 in
theorem c_X10_readLine (l : Launch) (D : va_G) (G : Nat → ClassId) (sz : Nat) (a_p0 : Nat) (a_p0_tape : Nat) (a_p0_rules : Nat) (a_p0_state : Nat) (a_p0_numbers : Nat) (a_p0_tape_bytes : Nat) (i_p0_faultFound : Int32) (i_p0_faultPlace : Int32) (i_p0_lines : Int32) (i_p0_met : Int32) (i_p0_greatest : Int32) (i_p0_tape_length : Int32) (i_p0_tape_at : Int32) (i_p0_tape_token : Int32) (i_p0_tape_start : Int32) (i_p0_tape_value : Int32) (v_p0_tape_bytes : (Nat → Int32)) (r : Int32) (o_i_p0_tape_at : Int32) (o_i_p0_tape_token : Int32) (o_i_p0_tape_start : Int32) (hf : f_X10_readLine i_p0_tape_length i_p0_tape_at v_p0_tape_bytes = some (r, o_i_p0_tape_at, o_i_p0_tape_token, o_i_p0_tape_start)) : Met l yX10_readLine wsX10_readLine rm_X10_readLine (pcG D G [.ref a_p0] sz [(a_p0, .inr (10, [.ref a_p0_tape, .ref a_p0_rules, .ref a_p0_state, .int i_p0_faultFound, .int i_p0_faultPlace, .int i_p0_lines, .int i_p0_met, .int i_p0_greatest, .ref a_p0_numbers])), (a_p0_tape, .inr (9, [.ref a_p0_tape_bytes, .int i_p0_tape_length, .int i_p0_tape_at, .int i_p0_tape_token, .int i_p0_tape_start, .int i_p0_tape_value])), (a_p0_tape_bytes, .inl (G 0, 320, .inl v_p0_tape_bytes))]) (qcI D G r [(a_p0, .inr (10, [.ref a_p0_tape, .ref a_p0_rules, .ref a_p0_state, .int i_p0_faultFound, .int i_p0_faultPlace, .int i_p0_lines, .int i_p0_met, .int i_p0_greatest, .ref a_p0_numbers])), (a_p0_tape, .inr (9, [.ref a_p0_tape_bytes, .int i_p0_tape_length, .int o_i_p0_tape_at, .int o_i_p0_tape_token, .int o_i_p0_tape_start, .int i_p0_tape_value])), (a_p0_tape_bytes, .inl (G 0, 320, .inl v_p0_tape_bytes))] (va_A [(a_p0, .inr (10, [.ref a_p0_tape, .ref a_p0_rules, .ref a_p0_state, .int i_p0_faultFound, .int i_p0_faultPlace, .int i_p0_lines, .int i_p0_met, .int i_p0_greatest, .ref a_p0_numbers])), (a_p0_tape, .inr (9, [.ref a_p0_tape_bytes, .int i_p0_tape_length, .int i_p0_tape_at, .int i_p0_tape_token, .int i_p0_tape_start, .int i_p0_tape_value])), (a_p0_tape_bytes, .inl (G 0, 320, .inl v_p0_tape_bytes))] sz)) 0 0 (va_A [(a_p0, .inr (10, [.ref a_p0_tape, .ref a_p0_rules, .ref a_p0_state, .int i_p0_faultFound, .int i_p0_faultPlace, .int i_p0_lines, .int i_p0_met, .int i_p0_greatest, .ref a_p0_numbers])), (a_p0_tape, .inr (9, [.ref a_p0_tape_bytes, .int i_p0_tape_length, .int i_p0_tape_at, .int i_p0_tape_token, .int i_p0_tape_start, .int i_p0_tape_value])), (a_p0_tape_bytes, .inl (G 0, 320, .inl v_p0_tape_bytes))] sz) := by
  refine Met.ofW (cc := cX10_readLine) (maxL := 4) (ret := (some .boolean)) (by decide) rfl ?_
  intro p e s m args below meth c s₁ B hml hv
  obtain ⟨rfl, hsz, hP, hK, hD0⟩ := hv
  have hx := B.exec
  have hb := B.bytes
  have hr := B.returns
  have hts := atoms_spec (ws := wsX10_readLine) B.pre
  have hown : s.vm.findClass RX10 = some m.cls := findClass_of_methodNamed B.named
  have hlocks := B.notSynchronized
  subst hsz
  have hD := hD0.self (sz := s.heap.size)
  generalize hAe : va_A [(a_p0, .inr (10, [.ref a_p0_tape, .ref a_p0_rules, .ref a_p0_state, .int i_p0_faultFound, .int i_p0_faultPlace, .int i_p0_lines, .int i_p0_met, .int i_p0_greatest, .ref a_p0_numbers])), (a_p0_tape, .inr (9, [.ref a_p0_tape_bytes, .int i_p0_tape_length, .int i_p0_tape_at, .int i_p0_tape_token, .int i_p0_tape_start, .int i_p0_tape_value])), (a_p0_tape_bytes, .inl (G 0, 320, .inl v_p0_tape_bytes))] s.heap.size = A at hD ⊢
  have hA : ∀ q : Nat, s.heap.size ≤ q → A q := fun q h => by rw [← hAe]; exact Or.inr h
  clear hAe hD0
  have hS : va_S A s.heap s.heap [] := va_S.rf
  have hl := lv_entry ([.ref a_p0]) (n := 4) (Nat.le_of_ble_eq_true rfl)
  rw [lg_entry_eq]
  generalize (lg_sl ([.ref a_p0]) ++ List.replicate (4 - (lg_sl ([.ref a_p0])).length) Slot.unset).toArray = ls at hl ⊢
  have hl : lv_has ls 4 [(0, .ref a_p0)] := hl
  refine W_nameQ (fun Q hQ => ?_)
  obtain ⟨H, hH⟩ : ∃ H, H = s.heap := ⟨_, rfl⟩
  replace hS : va_S A s.heap H [] := by rw [hH]; exact hS
  replace hP : va_P D vwCl [(a_p0, .inr (10, [.ref a_p0_tape, .ref a_p0_rules, .ref a_p0_state, .int i_p0_faultFound, .int i_p0_faultPlace, .int i_p0_lines, .int i_p0_met, .int i_p0_greatest, .ref a_p0_numbers])), (a_p0_tape, .inr (9, [.ref a_p0_tape_bytes, .int i_p0_tape_length, .int i_p0_tape_at, .int i_p0_tape_token, .int i_p0_tape_start, .int i_p0_tape_value])), (a_p0_tape_bytes, .inl (G 0, 320, .inl v_p0_tape_bytes))] H := by rw [hH]; exact hP
  rw [← hH]
  clear hH
  unfold f_X10_readLine at hf
  refine lv_aload_n hx hb dX10_readLine_0 rfl (lv_at hl 0 rfl) ?_
  refine va_get (D := D) (ci := 10) (v := .ref a_p0_tape) (C := RX10) (T := TX10) (N := 9) hx hb hts inX10_readLine_X10 hown hK hP 0 rfl rfl 0 (by decide) (hts _ mwX10_readLine_1) (fun _ h9 => h9) rfl dX10_readLine_1 ?_
  have hq := bd3_s hf
  clear hf
  obtain ⟨z1, z2, z3, hcall, hf⟩ := hq
  refine gcV (ws' := [(a_p0, .inr (10, [.ref a_p0_tape, .ref a_p0_rules, .ref a_p0_state, .int i_p0_faultFound, .int i_p0_faultPlace, .int i_p0_lines, .int i_p0_met, .int i_p0_greatest, .ref a_p0_numbers])), (a_p0_tape, .inr (9, [.ref a_p0_tape_bytes, .int i_p0_tape_length, .int z1, .int z2, .int z3, .int i_p0_tape_value])), (a_p0_tape_bytes, .inl (G 0, 320, .inl v_p0_tape_bytes))]) (va_runV (As := []) (rest := []) ⟨hx, hb, hml, hown, hts⟩ (c_X9_readToken (l := l) (D := D) (G := G) (sz := H.size) (a_p0 := a_p0_tape) (a_p0_bytes := a_p0_tape_bytes) (i_p0_length := i_p0_tape_length) (i_p0_at := i_p0_tape_at) (i_p0_token := i_p0_tape_token) (i_p0_start := i_p0_tape_start) (i_p0_value := i_p0_tape_value) (v_p0_bytes := v_p0_tape_bytes) (o_i_p0_at := z1) (o_i_p0_token := z2) (o_i_p0_start := z3) (hf := hcall)) (cwV 0 hts gX10_readLine_X9_readToken rfl rfl rfl (by decide +kernel) ⟨Nat.le_of_ble_eq_true rfl, Nat.le_of_ble_eq_true rfl⟩) (preG_V (ci := 9) (hP.sub [1, 2] rfl) (hD.sub [1, 2] rfl rfl) hK rfl rfl) rfl rfl hl.1 rfl (lv_room (Nat.le_of_ble_eq_true rfl)) dX10_readLine_4 ⟨Nat.le_of_ble_eq_true rfl, Nat.le_of_ble_eq_true rfl⟩) hP hD hS hA [1, 2] [0] [0, 1, 2] rfl rfl rfl (by decide) rfl rfl rfl (fun H locs hP hD hS => ?_)
  clear hcall
  refine lv_aload_n hx hb dX10_readLine_7 rfl (lv_at hl 0 rfl) ?_
  refine va_get (D := D) (ci := 10) (v := .ref a_p0_tape) (C := RX10) (T := TX10) (N := 9) hx hb hts inX10_readLine_X10 hown hK hP 0 rfl rfl 0 (by decide) (hts _ mwX10_readLine_1) (fun _ h9 => h9) rfl dX10_readLine_8 ?_
  refine va_get (D := D) (ci := 9) (v := .int z2) (C := RX9) (T := TX9) (N := 6) hx hb hts inX10_readLine_X9 hown hK hP 1 rfl rfl 3 (by decide) (hts _ mwX10_readLine_3) (fun _ h9 => h9) rfl dX10_readLine_11 ?_
  refine lv_if_ne (tgt := 19) hx hb dX10_readLine_14 (by decide) (fun cc => ?_) (fun cc => ?_)
  ·
    replace hf := ite_f cc hf
    clear cc
    refine lv_aload_n hx hb dX10_readLine_19 rfl (lv_at hl 0 rfl) ?_
    cases hf
  ·
    replace hf := ite_t cc hf
    clear cc
    refine lv_iconst (v := (0 : Int32)) hx hb dX10_readLine_17 (by decide) ?_
    obtain ⟨rfl, rfl, rfl, rfl⟩ := ou4 hf
    rw [hQ]
    exact W.zret hx hb hr rfl (fun t ht hW => ⟨⟨_, (), rfl, rfl, by rw [ht]; exact hP, va_K.moved hW.alike hK, hD⟩, hS.F ht⟩) hS.2.2 dX10_readLine_18

noncomputable def B_X10_readTape_8 (J22 : Int32 → Int32 → Int32 → Option (Int32 × Int32 × Int32 × Int32 × Int32 × Int32 × Int32 × Int32 × Int32 × Int32 × Int32 × (Nat → Int32) × Int32 × Int32 × Int32 × Int32 × (Nat → Int32) × (Nat → Int32) × (Nat → Int32) × (Nat → Int32))) (i_p0_tape_length : Int32) (v_p0_tape_bytes : (Nat → Int32)) (again8 : Int32 → Int32 → Int32 → Int32 → Int32 → Option (Int32 × Int32 × Int32 × Int32 × Int32 × Int32 × Int32 × Int32 × Int32 × Int32 × Int32 × (Nat → Int32) × Int32 × Int32 × Int32 × Int32 × (Nat → Int32) × (Nat → Int32) × (Nat → Int32) × (Nat → Int32))) (z29 : Int32) (z30 : Int32) (z31 : Int32) (z32 : Int32) (z33 : Int32) : Option (Int32 × Int32 × Int32 × Int32 × Int32 × Int32 × Int32 × Int32 × Int32 × Int32 × Int32 × (Nat → Int32) × Int32 × Int32 × Int32 × Int32 × (Nat → Int32) × (Nat → Int32) × (Nat → Int32) × (Nat → Int32)) := (if (320 : Int32) < z29 then (J22 z31 z32 z33) else (if z30 = 0 then (J22 z31 z32 z33) else (bd4 (f_X10_readLine i_p0_tape_length z31 v_p0_tape_bytes) (fun (z35 : Int32) (z36 : Int32) (z37 : Int32) (z38 : Int32) => (bnd z35 (fun (z39 : Int32) => (bnd (z29 + (1 : Int32)) (fun (z40 : Int32) => (again8 z40 z39 z36 z37 z38)))))))))
noncomputable def f_X10_readTape (i_p0_faultPlace : Int32) (i_p0_tape_length : Int32) (i_p0_tape_token : Int32) (i_p0_tape_start : Int32) (v_p0_tape_bytes : (Nat → Int32)) (v_p0_rules_need : (Nat → Int32)) (v_p0_state_pieces : (Nat → Int32)) (v_p0_state_friends : (Nat → Int32)) (v_p0_state_spoons : (Nat → Int32)) (v_p0_state_eaten : (Nat → Int32)) : Option (Int32 × Int32 × Int32 × Int32 × Int32 × Int32 × Int32 × Int32 × Int32 × Int32 × Int32 × (Nat → Int32) × Int32 × Int32 × Int32 × Int32 × (Nat → Int32) × (Nat → Int32) × (Nat → Int32) × (Nat → Int32)) := (bd16 (f_X10_begin v_p0_rules_need v_p0_state_pieces v_p0_state_friends v_p0_state_spoons v_p0_state_eaten) (fun (z1 : Int32) (z2 : Int32) (z3 : Int32) (z4 : Int32) (z5 : Int32) (z6 : Int32) (z7 : Int32) (w8 : (Nat → Int32)) (z9 : Int32) (z10 : Int32) (z11 : Int32) (z12 : Int32) (w13 : (Nat → Int32)) (w14 : (Nat → Int32)) (w15 : (Nat → Int32)) (w16 : (Nat → Int32)) => (bnd (1 : Int32) (fun (z17 : Int32) => (bnd (0 : Int32) (fun (z18 : Int32) => (jn (fun (z19 : Int32) (z20 : Int32) (z21 : Int32) => (jn (fun (z23 : Int32) (z24 : Int32) => (if z23 = 0 then (bd0 (f_X6_workOutStirs z6 z7) ((some (z2, z23, z24, z2, z3, z4, z19, z20, z21, z6, z7, w8, z9, z10, z11, z12, w13, w14, w15, w16)))) else (some (((-10 : Int32) - z24), z23, z24, z2, z3, z4, z19, z20, z21, z6, z7, w8, z9, z10, z11, z12, w13, w14, w15, w16)))) (fun (J25 : Int32 → Int32 → Option (Int32 × Int32 × Int32 × Int32 × Int32 × Int32 × Int32 × Int32 × Int32 × Int32 × Int32 × (Nat → Int32) × Int32 × Int32 × Int32 × Int32 × (Nat → Int32) × (Nat → Int32) × (Nat → Int32) × (Nat → Int32))) => (if z1 = 0 then (if z4 < z6 then (J25 z1 i_p0_faultPlace) else (bd3 (f_X10_refuse (6 : Int32) i_p0_tape_length) (fun (z26 : Int32) (z27 : Int32) (z28 : Int32) => (J25 z27 z28)))) else (J25 z1 i_p0_faultPlace))))) (fun (J22 : Int32 → Int32 → Int32 → Option (Int32 × Int32 × Int32 × Int32 × Int32 × Int32 × Int32 × Int32 × Int32 × Int32 × Int32 × (Nat → Int32) × Int32 × Int32 × Int32 × Int32 × (Nat → Int32) × (Nat → Int32) × (Nat → Int32) × (Nat → Int32))) => (lq5 (B_X10_readTape_8 J22 i_p0_tape_length v_p0_tape_bytes) 1000 z18 z17 z5 i_p0_tape_token i_p0_tape_start)))))))))
abbrev rm_X10_readTape : Room := { frames := 3, cells := 0, slots := 0, locals := 63 }
theorem inX10_readTape_X10 : ∀ w ∈ wsX100, w ∈ wsX10_readTape := by decide +kernel
theorem mwX10_readTape_1 : Cond.fieldLink RX10 25 "LadleKings$TextReader" "faultFound" "I" ∈ wsX10_readTape := by decide +kernel
theorem mwX10_readTape_2 : Cond.fieldLink RX10 12 "LadleKings$TextReader" "rules" "LLadleKings$Rules;" ∈ wsX10_readTape := by decide +kernel
theorem mwX10_readTape_3 : Cond.fieldLink RX10 32 "LadleKings$TextReader" "lines" "I" ∈ wsX10_readTape := by decide +kernel
theorem mwX10_readTape_4 : Cond.fieldLink RX10 29 "LadleKings$TextReader" "faultPlace" "I" ∈ wsX10_readTape := by decide +kernel
theorem mwX10_readTape_5 : Cond.fieldLink RX10 38 "LadleKings$TextReader" "greatest" "I" ∈ wsX10_readTape := by decide +kernel
theorem inX10_readTape_X6 : ∀ w ∈ wsX60, w ∈ wsX10_readTape := by decide +kernel
theorem mwX10_readTape_7 : Cond.fieldLink RX10 56 "LadleKings$Rules" "seats" "I" ∈ wsX10_readTape := by decide +kernel
theorem mwX10_readTape_8 : Cond.fieldLink RX10 45 "LadleKings$TextReader" "tape" "LLadleKings$Tape;" ∈ wsX10_readTape := by decide +kernel
theorem inX10_readTape_X9 : ∀ w ∈ wsX90, w ∈ wsX10_readTape := by decide +kernel
theorem mwX10_readTape_10 : Cond.fieldLink RX10 59 "LadleKings$Tape" "length" "I" ∈ wsX10_readTape := by decide +kernel
set_option maxHeartbeats 8000000 in
set_option maxRecDepth 100000 in
theorem c_X10_readTape (l : Launch) (D : va_G) (G : Nat → ClassId) (sz : Nat) (a_p0 : Nat) (a_p0_tape : Nat) (a_p0_rules : Nat) (a_p0_state : Nat) (a_p0_numbers : Nat) (a_p0_tape_bytes : Nat) (a_p0_rules_need : Nat) (a_p0_rules_kind : Nat) (a_p0_rules_first : Nat) (a_p0_rules_second : Nat) (a_p0_rules_after : Nat) (a_p0_state_pieces : Nat) (a_p0_state_friends : Nat) (a_p0_state_spoons : Nat) (a_p0_state_eaten : Nat) (a_p0_state_seen : Nat) (i_p0_faultFound : Int32) (i_p0_faultPlace : Int32) (i_p0_lines : Int32) (i_p0_met : Int32) (i_p0_greatest : Int32) (i_p0_tape_length : Int32) (i_p0_tape_at : Int32) (i_p0_tape_token : Int32) (i_p0_tape_start : Int32) (i_p0_tape_value : Int32) (v_p0_tape_bytes : (Nat → Int32)) (i_p0_rules_seats : Int32) (i_p0_rules_stirs : Int32) (v_p0_rules_need : (Nat → Int32)) (i_p0_state_seenDays : Int32) (i_p0_state_bone : Int32) (i_p0_state_king : Int32) (i_p0_state_days : Int32) (v_p0_state_pieces : (Nat → Int32)) (v_p0_state_friends : (Nat → Int32)) (v_p0_state_spoons : (Nat → Int32)) (v_p0_state_eaten : (Nat → Int32)) (r : Int32) (o_i_p0_faultFound : Int32) (o_i_p0_faultPlace : Int32) (o_i_p0_lines : Int32) (o_i_p0_met : Int32) (o_i_p0_greatest : Int32) (o_i_p0_tape_at : Int32) (o_i_p0_tape_token : Int32) (o_i_p0_tape_start : Int32) (o_i_p0_rules_seats : Int32) (o_i_p0_rules_stirs : Int32) (o_v_p0_rules_need : (Nat → Int32)) (o_i_p0_state_seenDays : Int32) (o_i_p0_state_bone : Int32) (o_i_p0_state_king : Int32) (o_i_p0_state_days : Int32) (o_v_p0_state_pieces : (Nat → Int32)) (o_v_p0_state_friends : (Nat → Int32)) (o_v_p0_state_spoons : (Nat → Int32)) (o_v_p0_state_eaten : (Nat → Int32)) (hf : f_X10_readTape i_p0_faultPlace i_p0_tape_length i_p0_tape_token i_p0_tape_start v_p0_tape_bytes v_p0_rules_need v_p0_state_pieces v_p0_state_friends v_p0_state_spoons v_p0_state_eaten = some (r, o_i_p0_faultFound, o_i_p0_faultPlace, o_i_p0_lines, o_i_p0_met, o_i_p0_greatest, o_i_p0_tape_at, o_i_p0_tape_token, o_i_p0_tape_start, o_i_p0_rules_seats, o_i_p0_rules_stirs, o_v_p0_rules_need, o_i_p0_state_seenDays, o_i_p0_state_bone, o_i_p0_state_king, o_i_p0_state_days, o_v_p0_state_pieces, o_v_p0_state_friends, o_v_p0_state_spoons, o_v_p0_state_eaten)) : Met l yX10_readTape wsX10_readTape rm_X10_readTape (pcG D G [.ref a_p0] sz [(a_p0, .inr (10, [.ref a_p0_tape, .ref a_p0_rules, .ref a_p0_state, .int i_p0_faultFound, .int i_p0_faultPlace, .int i_p0_lines, .int i_p0_met, .int i_p0_greatest, .ref a_p0_numbers])), (a_p0_tape, .inr (9, [.ref a_p0_tape_bytes, .int i_p0_tape_length, .int i_p0_tape_at, .int i_p0_tape_token, .int i_p0_tape_start, .int i_p0_tape_value])), (a_p0_tape_bytes, .inl (G 0, 320, .inl v_p0_tape_bytes)), (a_p0_rules, .inr (6, [.int i_p0_rules_seats, .int i_p0_rules_stirs, .ref a_p0_rules_need, .ref a_p0_rules_kind, .ref a_p0_rules_first, .ref a_p0_rules_second, .ref a_p0_rules_after])), (a_p0_rules_need, .inl (G 1, 7, .inl v_p0_rules_need)), (a_p0_state, .inr (8, [.ref a_p0_state_pieces, .ref a_p0_state_friends, .ref a_p0_state_spoons, .ref a_p0_state_eaten, .ref a_p0_state_seen, .int i_p0_state_seenDays, .int i_p0_state_bone, .int i_p0_state_king, .int i_p0_state_days])), (a_p0_state_pieces, .inl (G 1, 7, .inl v_p0_state_pieces)), (a_p0_state_friends, .inl (G 1, 7, .inl v_p0_state_friends)), (a_p0_state_spoons, .inl (G 1, 7, .inl v_p0_state_spoons)), (a_p0_state_eaten, .inl (G 1, 7, .inl v_p0_state_eaten))]) (qcI D G r [(a_p0, .inr (10, [.ref a_p0_tape, .ref a_p0_rules, .ref a_p0_state, .int o_i_p0_faultFound, .int o_i_p0_faultPlace, .int o_i_p0_lines, .int o_i_p0_met, .int o_i_p0_greatest, .ref a_p0_numbers])), (a_p0_tape, .inr (9, [.ref a_p0_tape_bytes, .int i_p0_tape_length, .int o_i_p0_tape_at, .int o_i_p0_tape_token, .int o_i_p0_tape_start, .int i_p0_tape_value])), (a_p0_tape_bytes, .inl (G 0, 320, .inl v_p0_tape_bytes)), (a_p0_rules, .inr (6, [.int o_i_p0_rules_seats, .int o_i_p0_rules_stirs, .ref a_p0_rules_need, .ref a_p0_rules_kind, .ref a_p0_rules_first, .ref a_p0_rules_second, .ref a_p0_rules_after])), (a_p0_rules_need, .inl (G 1, 7, .inl o_v_p0_rules_need)), (a_p0_state, .inr (8, [.ref a_p0_state_pieces, .ref a_p0_state_friends, .ref a_p0_state_spoons, .ref a_p0_state_eaten, .ref a_p0_state_seen, .int o_i_p0_state_seenDays, .int o_i_p0_state_bone, .int o_i_p0_state_king, .int o_i_p0_state_days])), (a_p0_state_pieces, .inl (G 1, 7, .inl o_v_p0_state_pieces)), (a_p0_state_friends, .inl (G 1, 7, .inl o_v_p0_state_friends)), (a_p0_state_spoons, .inl (G 1, 7, .inl o_v_p0_state_spoons)), (a_p0_state_eaten, .inl (G 1, 7, .inl o_v_p0_state_eaten))] (va_A [(a_p0, .inr (10, [.ref a_p0_tape, .ref a_p0_rules, .ref a_p0_state, .int i_p0_faultFound, .int i_p0_faultPlace, .int i_p0_lines, .int i_p0_met, .int i_p0_greatest, .ref a_p0_numbers])), (a_p0_tape, .inr (9, [.ref a_p0_tape_bytes, .int i_p0_tape_length, .int i_p0_tape_at, .int i_p0_tape_token, .int i_p0_tape_start, .int i_p0_tape_value])), (a_p0_tape_bytes, .inl (G 0, 320, .inl v_p0_tape_bytes)), (a_p0_rules, .inr (6, [.int i_p0_rules_seats, .int i_p0_rules_stirs, .ref a_p0_rules_need, .ref a_p0_rules_kind, .ref a_p0_rules_first, .ref a_p0_rules_second, .ref a_p0_rules_after])), (a_p0_rules_need, .inl (G 1, 7, .inl v_p0_rules_need)), (a_p0_state, .inr (8, [.ref a_p0_state_pieces, .ref a_p0_state_friends, .ref a_p0_state_spoons, .ref a_p0_state_eaten, .ref a_p0_state_seen, .int i_p0_state_seenDays, .int i_p0_state_bone, .int i_p0_state_king, .int i_p0_state_days])), (a_p0_state_pieces, .inl (G 1, 7, .inl v_p0_state_pieces)), (a_p0_state_friends, .inl (G 1, 7, .inl v_p0_state_friends)), (a_p0_state_spoons, .inl (G 1, 7, .inl v_p0_state_spoons)), (a_p0_state_eaten, .inl (G 1, 7, .inl v_p0_state_eaten))] sz)) 0 0 (va_A [(a_p0, .inr (10, [.ref a_p0_tape, .ref a_p0_rules, .ref a_p0_state, .int i_p0_faultFound, .int i_p0_faultPlace, .int i_p0_lines, .int i_p0_met, .int i_p0_greatest, .ref a_p0_numbers])), (a_p0_tape, .inr (9, [.ref a_p0_tape_bytes, .int i_p0_tape_length, .int i_p0_tape_at, .int i_p0_tape_token, .int i_p0_tape_start, .int i_p0_tape_value])), (a_p0_tape_bytes, .inl (G 0, 320, .inl v_p0_tape_bytes)), (a_p0_rules, .inr (6, [.int i_p0_rules_seats, .int i_p0_rules_stirs, .ref a_p0_rules_need, .ref a_p0_rules_kind, .ref a_p0_rules_first, .ref a_p0_rules_second, .ref a_p0_rules_after])), (a_p0_rules_need, .inl (G 1, 7, .inl v_p0_rules_need)), (a_p0_state, .inr (8, [.ref a_p0_state_pieces, .ref a_p0_state_friends, .ref a_p0_state_spoons, .ref a_p0_state_eaten, .ref a_p0_state_seen, .int i_p0_state_seenDays, .int i_p0_state_bone, .int i_p0_state_king, .int i_p0_state_days])), (a_p0_state_pieces, .inl (G 1, 7, .inl v_p0_state_pieces)), (a_p0_state_friends, .inl (G 1, 7, .inl v_p0_state_friends)), (a_p0_state_spoons, .inl (G 1, 7, .inl v_p0_state_spoons)), (a_p0_state_eaten, .inl (G 1, 7, .inl v_p0_state_eaten))] sz) := by
  refine Met.ofW (cc := cX10_readTape) (maxL := 3) (ret := (some .int)) (by decide) rfl ?_
  intro p e s m args below meth c s₁ B hml hv
  obtain ⟨rfl, hsz, hP, hK, hD0⟩ := hv
  have hx := B.exec
  have hb := B.bytes
  have hr := B.returns
  have hts := atoms_spec (ws := wsX10_readTape) B.pre
  have hown : s.vm.findClass RX10 = some m.cls := findClass_of_methodNamed B.named
  have hlocks := B.notSynchronized
  subst hsz
  have hD := hD0.self (sz := s.heap.size)
  generalize hAe : va_A [(a_p0, .inr (10, [.ref a_p0_tape, .ref a_p0_rules, .ref a_p0_state, .int i_p0_faultFound, .int i_p0_faultPlace, .int i_p0_lines, .int i_p0_met, .int i_p0_greatest, .ref a_p0_numbers])), (a_p0_tape, .inr (9, [.ref a_p0_tape_bytes, .int i_p0_tape_length, .int i_p0_tape_at, .int i_p0_tape_token, .int i_p0_tape_start, .int i_p0_tape_value])), (a_p0_tape_bytes, .inl (G 0, 320, .inl v_p0_tape_bytes)), (a_p0_rules, .inr (6, [.int i_p0_rules_seats, .int i_p0_rules_stirs, .ref a_p0_rules_need, .ref a_p0_rules_kind, .ref a_p0_rules_first, .ref a_p0_rules_second, .ref a_p0_rules_after])), (a_p0_rules_need, .inl (G 1, 7, .inl v_p0_rules_need)), (a_p0_state, .inr (8, [.ref a_p0_state_pieces, .ref a_p0_state_friends, .ref a_p0_state_spoons, .ref a_p0_state_eaten, .ref a_p0_state_seen, .int i_p0_state_seenDays, .int i_p0_state_bone, .int i_p0_state_king, .int i_p0_state_days])), (a_p0_state_pieces, .inl (G 1, 7, .inl v_p0_state_pieces)), (a_p0_state_friends, .inl (G 1, 7, .inl v_p0_state_friends)), (a_p0_state_spoons, .inl (G 1, 7, .inl v_p0_state_spoons)), (a_p0_state_eaten, .inl (G 1, 7, .inl v_p0_state_eaten))] s.heap.size = A at hD ⊢
  have hA : ∀ q : Nat, s.heap.size ≤ q → A q := fun q h => by rw [← hAe]; exact Or.inr h
  clear hAe hD0
  have hS : va_S A s.heap s.heap [] := va_S.rf
  have hl := lv_entry ([.ref a_p0]) (n := 3) (Nat.le_of_ble_eq_true rfl)
  rw [lg_entry_eq]
  generalize (lg_sl ([.ref a_p0]) ++ List.replicate (3 - (lg_sl ([.ref a_p0])).length) Slot.unset).toArray = ls at hl ⊢
  have hl : lv_has ls 3 [(0, .ref a_p0)] := hl
  refine W_nameQ (fun Q hQ => ?_)
  obtain ⟨H, hH⟩ : ∃ H, H = s.heap := ⟨_, rfl⟩
  replace hS : va_S A s.heap H [] := by rw [hH]; exact hS
  replace hP : va_P D vwCl [(a_p0, .inr (10, [.ref a_p0_tape, .ref a_p0_rules, .ref a_p0_state, .int i_p0_faultFound, .int i_p0_faultPlace, .int i_p0_lines, .int i_p0_met, .int i_p0_greatest, .ref a_p0_numbers])), (a_p0_tape, .inr (9, [.ref a_p0_tape_bytes, .int i_p0_tape_length, .int i_p0_tape_at, .int i_p0_tape_token, .int i_p0_tape_start, .int i_p0_tape_value])), (a_p0_tape_bytes, .inl (G 0, 320, .inl v_p0_tape_bytes)), (a_p0_rules, .inr (6, [.int i_p0_rules_seats, .int i_p0_rules_stirs, .ref a_p0_rules_need, .ref a_p0_rules_kind, .ref a_p0_rules_first, .ref a_p0_rules_second, .ref a_p0_rules_after])), (a_p0_rules_need, .inl (G 1, 7, .inl v_p0_rules_need)), (a_p0_state, .inr (8, [.ref a_p0_state_pieces, .ref a_p0_state_friends, .ref a_p0_state_spoons, .ref a_p0_state_eaten, .ref a_p0_state_seen, .int i_p0_state_seenDays, .int i_p0_state_bone, .int i_p0_state_king, .int i_p0_state_days])), (a_p0_state_pieces, .inl (G 1, 7, .inl v_p0_state_pieces)), (a_p0_state_friends, .inl (G 1, 7, .inl v_p0_state_friends)), (a_p0_state_spoons, .inl (G 1, 7, .inl v_p0_state_spoons)), (a_p0_state_eaten, .inl (G 1, 7, .inl v_p0_state_eaten))] H := by rw [hH]; exact hP
  rw [← hH]
  clear hH
  unfold f_X10_readTape at hf
  refine lv_aload_n hx hb dX10_readTape_0 rfl (lv_at hl 0 rfl) ?_
  have hq := bd16_s hf
  clear hf
  obtain ⟨z1, z2, z3, z4, z5, z6, z7, w8, z9, z10, z11, z12, w13, w14, w15, w16, hcall, hf⟩ := hq
  refine gcV (ws' := [(a_p0, .inr (10, [.ref a_p0_tape, .ref a_p0_rules, .ref a_p0_state, .int z1, .int i_p0_faultPlace, .int z2, .int z3, .int z4, .ref a_p0_numbers])), (a_p0_tape, .inr (9, [.ref a_p0_tape_bytes, .int i_p0_tape_length, .int z5, .int i_p0_tape_token, .int i_p0_tape_start, .int i_p0_tape_value])), (a_p0_tape_bytes, .inl (G 0, 320, .inl v_p0_tape_bytes)), (a_p0_rules, .inr (6, [.int z6, .int z7, .ref a_p0_rules_need, .ref a_p0_rules_kind, .ref a_p0_rules_first, .ref a_p0_rules_second, .ref a_p0_rules_after])), (a_p0_rules_need, .inl (G 1, 7, .inl w8)), (a_p0_state, .inr (8, [.ref a_p0_state_pieces, .ref a_p0_state_friends, .ref a_p0_state_spoons, .ref a_p0_state_eaten, .ref a_p0_state_seen, .int z9, .int z10, .int z11, .int z12])), (a_p0_state_pieces, .inl (G 1, 7, .inl w13)), (a_p0_state_friends, .inl (G 1, 7, .inl w14)), (a_p0_state_spoons, .inl (G 1, 7, .inl w15)), (a_p0_state_eaten, .inl (G 1, 7, .inl w16))]) (va_runV (As := []) (rest := []) ⟨hx, hb, hml, hown, hts⟩ (c_X10_begin (l := l) (D := D) (G := G) (sz := H.size) (a_p0 := a_p0) (a_p0_tape := a_p0_tape) (a_p0_rules := a_p0_rules) (a_p0_state := a_p0_state) (a_p0_numbers := a_p0_numbers) (a_p0_tape_bytes := a_p0_tape_bytes) (a_p0_rules_need := a_p0_rules_need) (a_p0_rules_kind := a_p0_rules_kind) (a_p0_rules_first := a_p0_rules_first) (a_p0_rules_second := a_p0_rules_second) (a_p0_rules_after := a_p0_rules_after) (a_p0_state_pieces := a_p0_state_pieces) (a_p0_state_friends := a_p0_state_friends) (a_p0_state_spoons := a_p0_state_spoons) (a_p0_state_eaten := a_p0_state_eaten) (a_p0_state_seen := a_p0_state_seen) (i_p0_faultFound := i_p0_faultFound) (i_p0_faultPlace := i_p0_faultPlace) (i_p0_lines := i_p0_lines) (i_p0_met := i_p0_met) (i_p0_greatest := i_p0_greatest) (i_p0_tape_length := i_p0_tape_length) (i_p0_tape_at := i_p0_tape_at) (i_p0_tape_token := i_p0_tape_token) (i_p0_tape_start := i_p0_tape_start) (i_p0_tape_value := i_p0_tape_value) (i_p0_rules_seats := i_p0_rules_seats) (i_p0_rules_stirs := i_p0_rules_stirs) (v_p0_rules_need := v_p0_rules_need) (i_p0_state_seenDays := i_p0_state_seenDays) (i_p0_state_bone := i_p0_state_bone) (i_p0_state_king := i_p0_state_king) (i_p0_state_days := i_p0_state_days) (v_p0_state_pieces := v_p0_state_pieces) (v_p0_state_friends := v_p0_state_friends) (v_p0_state_spoons := v_p0_state_spoons) (v_p0_state_eaten := v_p0_state_eaten) (o_i_p0_faultFound := z1) (o_i_p0_lines := z2) (o_i_p0_met := z3) (o_i_p0_greatest := z4) (o_i_p0_tape_at := z5) (o_i_p0_rules_seats := z6) (o_i_p0_rules_stirs := z7) (o_v_p0_rules_need := w8) (o_i_p0_state_seenDays := z9) (o_i_p0_state_bone := z10) (o_i_p0_state_king := z11) (o_i_p0_state_days := z12) (o_v_p0_state_pieces := w13) (o_v_p0_state_friends := w14) (o_v_p0_state_spoons := w15) (o_v_p0_state_eaten := w16) (hf := hcall)) (cwV 0 hts gX10_readTape_X10_begin rfl rfl rfl (by decide +kernel) ⟨Nat.le_of_ble_eq_true rfl, Nat.le_of_ble_eq_true rfl⟩) (preG_V (ci := 10) (hP.sub [0, 1, 3, 4, 5, 6, 7, 8, 9] rfl) (hD.sub [0, 1, 3, 4, 5, 6, 7, 8, 9] rfl rfl) hK rfl rfl) rfl rfl hl.1 rfl (lv_room (Nat.le_of_ble_eq_true rfl)) dX10_readTape_1 ⟨Nat.le_of_ble_eq_true rfl, Nat.le_of_ble_eq_true rfl⟩) hP hD hS hA [0, 1, 3, 4, 5, 6, 7, 8, 9] [2] [1, 2, 0, 3, 4, 5, 6, 7, 8, 9] rfl rfl rfl (by decide) rfl rfl rfl (fun H locs hP hD hS => ?_)
  clear hcall
  refine lv_iconst (v := (1 : Int32)) hx hb dX10_readTape_4 (by decide) ?_
  refine lv_topi (fun z17 ez => ?_)
  replace hf := bnd_s hf ez
  clear ez
  refine lv_istore_n (lv' := [(1, .int z17), (0, .ref a_p0)]) hx hb dX10_readTape_5 rfl hl (by decide) rfl (fun ls hl => ?_)
  refine lv_iconst (v := (0 : Int32)) hx hb dX10_readTape_6 (by decide) ?_
  refine lv_topi (fun z18 ez => ?_)
  replace hf := bnd_s hf ez
  clear ez
  refine lv_istore_n (lv' := [(2, .int z18), (1, .int z17), (0, .ref a_p0)]) hx hb dX10_readTape_7 rfl hl (by decide) rfl (fun ls hl => ?_)
  have hq := jn_i hf
  clear hf
  obtain ⟨J22, eJ22, hf⟩ := hq
  have hJ22 : ∀ (z19 : Int32) (z20 : Int32) (z21 : Int32) (ls : Array Slot) (H : Heap) (locs : List Loc), lv_has ls 3 [(0, .ref a_p0)] → va_P D vwCl [(a_p0, .inr (10, [.ref a_p0_tape, .ref a_p0_rules, .ref a_p0_state, .int z1, .int i_p0_faultPlace, .int z2, .int z3, .int z4, .ref a_p0_numbers])), (a_p0_tape, .inr (9, [.ref a_p0_tape_bytes, .int i_p0_tape_length, .int z19, .int z20, .int z21, .int i_p0_tape_value])), (a_p0_tape_bytes, .inl (G 0, 320, .inl v_p0_tape_bytes)), (a_p0_rules, .inr (6, [.int z6, .int z7, .ref a_p0_rules_need, .ref a_p0_rules_kind, .ref a_p0_rules_first, .ref a_p0_rules_second, .ref a_p0_rules_after])), (a_p0_rules_need, .inl (G 1, 7, .inl w8)), (a_p0_state, .inr (8, [.ref a_p0_state_pieces, .ref a_p0_state_friends, .ref a_p0_state_spoons, .ref a_p0_state_eaten, .ref a_p0_state_seen, .int z9, .int z10, .int z11, .int z12])), (a_p0_state_pieces, .inl (G 1, 7, .inl w13)), (a_p0_state_friends, .inl (G 1, 7, .inl w14)), (a_p0_state_spoons, .inl (G 1, 7, .inl w15)), (a_p0_state_eaten, .inl (G 1, 7, .inl w16))] H → va_D A [(a_p0, .inr (10, [.ref a_p0_tape, .ref a_p0_rules, .ref a_p0_state, .int z1, .int i_p0_faultPlace, .int z2, .int z3, .int z4, .ref a_p0_numbers])), (a_p0_tape, .inr (9, [.ref a_p0_tape_bytes, .int i_p0_tape_length, .int z19, .int z20, .int z21, .int i_p0_tape_value])), (a_p0_tape_bytes, .inl (G 0, 320, .inl v_p0_tape_bytes)), (a_p0_rules, .inr (6, [.int z6, .int z7, .ref a_p0_rules_need, .ref a_p0_rules_kind, .ref a_p0_rules_first, .ref a_p0_rules_second, .ref a_p0_rules_after])), (a_p0_rules_need, .inl (G 1, 7, .inl w8)), (a_p0_state, .inr (8, [.ref a_p0_state_pieces, .ref a_p0_state_friends, .ref a_p0_state_spoons, .ref a_p0_state_eaten, .ref a_p0_state_seen, .int z9, .int z10, .int z11, .int z12])), (a_p0_state_pieces, .inl (G 1, 7, .inl w13)), (a_p0_state_friends, .inl (G 1, 7, .inl w14)), (a_p0_state_spoons, .inl (G 1, 7, .inl w15)), (a_p0_state_eaten, .inl (G 1, 7, .inl w16))] → va_S A s.heap H locs → J22 z19 z20 z21 = some (r, o_i_p0_faultFound, o_i_p0_faultPlace, o_i_p0_lines, o_i_p0_met, o_i_p0_greatest, o_i_p0_tape_at, o_i_p0_tape_token, o_i_p0_tape_start, o_i_p0_rules_seats, o_i_p0_rules_stirs, o_v_p0_rules_need, o_i_p0_state_seenDays, o_i_p0_state_bone, o_i_p0_state_king, o_i_p0_state_days, o_v_p0_state_pieces, o_v_p0_state_friends, o_v_p0_state_spoons, o_v_p0_state_eaten) → W p l e rm_X10_readTape s m ([.ref a_p0] : List Value).toArray below meth c H locs 0 0 Q (F0 m 30 ls []) := by
    clear hf hl hP hD hS
    intro z19 z20 z21 ls H locs hl hP hD hS hf
    replace hf := jn3_s eJ22 hf
    refine lv_aload_n hx hb dX10_readTape_30 rfl (lv_at hl 0 rfl) ?_
    refine va_get (D := D) (ci := 10) (v := .int z1) (C := RX10) (T := TX10) (N := 9) hx hb hts inX10_readTape_X10 hown hK hP 0 rfl rfl 3 (by decide) (hts _ mwX10_readTape_1) (fun _ h9 => h9) rfl dX10_readTape_31 ?_
    have hq := jn_i hf
    clear hf
    obtain ⟨J25, eJ25, hf⟩ := hq
    have hJ25 : ∀ (z23 : Int32) (z24 : Int32) (ls : Array Slot) (H : Heap) (locs : List Loc), lv_has ls 3 [(0, .ref a_p0)] → va_P D vwCl [(a_p0, .inr (10, [.ref a_p0_tape, .ref a_p0_rules, .ref a_p0_state, .int z23, .int z24, .int z2, .int z3, .int z4, .ref a_p0_numbers])), (a_p0_tape, .inr (9, [.ref a_p0_tape_bytes, .int i_p0_tape_length, .int z19, .int z20, .int z21, .int i_p0_tape_value])), (a_p0_tape_bytes, .inl (G 0, 320, .inl v_p0_tape_bytes)), (a_p0_rules, .inr (6, [.int z6, .int z7, .ref a_p0_rules_need, .ref a_p0_rules_kind, .ref a_p0_rules_first, .ref a_p0_rules_second, .ref a_p0_rules_after])), (a_p0_rules_need, .inl (G 1, 7, .inl w8)), (a_p0_state, .inr (8, [.ref a_p0_state_pieces, .ref a_p0_state_friends, .ref a_p0_state_spoons, .ref a_p0_state_eaten, .ref a_p0_state_seen, .int z9, .int z10, .int z11, .int z12])), (a_p0_state_pieces, .inl (G 1, 7, .inl w13)), (a_p0_state_friends, .inl (G 1, 7, .inl w14)), (a_p0_state_spoons, .inl (G 1, 7, .inl w15)), (a_p0_state_eaten, .inl (G 1, 7, .inl w16))] H → va_D A [(a_p0, .inr (10, [.ref a_p0_tape, .ref a_p0_rules, .ref a_p0_state, .int z23, .int z24, .int z2, .int z3, .int z4, .ref a_p0_numbers])), (a_p0_tape, .inr (9, [.ref a_p0_tape_bytes, .int i_p0_tape_length, .int z19, .int z20, .int z21, .int i_p0_tape_value])), (a_p0_tape_bytes, .inl (G 0, 320, .inl v_p0_tape_bytes)), (a_p0_rules, .inr (6, [.int z6, .int z7, .ref a_p0_rules_need, .ref a_p0_rules_kind, .ref a_p0_rules_first, .ref a_p0_rules_second, .ref a_p0_rules_after])), (a_p0_rules_need, .inl (G 1, 7, .inl w8)), (a_p0_state, .inr (8, [.ref a_p0_state_pieces, .ref a_p0_state_friends, .ref a_p0_state_spoons, .ref a_p0_state_eaten, .ref a_p0_state_seen, .int z9, .int z10, .int z11, .int z12])), (a_p0_state_pieces, .inl (G 1, 7, .inl w13)), (a_p0_state_friends, .inl (G 1, 7, .inl w14)), (a_p0_state_spoons, .inl (G 1, 7, .inl w15)), (a_p0_state_eaten, .inl (G 1, 7, .inl w16))] → va_S A s.heap H locs → J25 z23 z24 = some (r, o_i_p0_faultFound, o_i_p0_faultPlace, o_i_p0_lines, o_i_p0_met, o_i_p0_greatest, o_i_p0_tape_at, o_i_p0_tape_token, o_i_p0_tape_start, o_i_p0_rules_seats, o_i_p0_rules_stirs, o_v_p0_rules_need, o_i_p0_state_seenDays, o_i_p0_state_bone, o_i_p0_state_king, o_i_p0_state_days, o_v_p0_state_pieces, o_v_p0_state_friends, o_v_p0_state_spoons, o_v_p0_state_eaten) → W p l e rm_X10_readTape s m ([.ref a_p0] : List Value).toArray below meth c H locs 0 0 Q (F0 m 65 ls []) := by
      clear hf hl hP hD hS
      intro z23 z24 ls H locs hl hP hD hS hf
      replace hf := jn2_s eJ25 hf
      refine lv_aload_n hx hb dX10_readTape_65 rfl (lv_at hl 0 rfl) ?_
      refine va_get (D := D) (ci := 10) (v := .int z23) (C := RX10) (T := TX10) (N := 9) hx hb hts inX10_readTape_X10 hown hK hP 0 rfl rfl 3 (by decide) (hts _ mwX10_readTape_1) (fun _ h9 => h9) rfl dX10_readTape_66 ?_
      refine lv_if_eq (tgt := 80) hx hb dX10_readTape_69 (by decide) (fun cc => ?_) (fun cc => ?_)
      ·
        replace hf := ite_t cc hf
        clear cc
        refine lv_aload_n hx hb dX10_readTape_80 rfl (lv_at hl 0 rfl) ?_
        refine va_get (D := D) (ci := 10) (v := .ref a_p0_rules) (C := RX10) (T := TX10) (N := 9) hx hb hts inX10_readTape_X10 hown hK hP 0 rfl rfl 1 (by decide) (hts _ mwX10_readTape_2) (fun _ h9 => h9) rfl dX10_readTape_81 ?_
        have hq := bd0_s hf
        clear hf
        obtain ⟨hcall, hf⟩ := hq
        refine gcV (ws' := [(a_p0, .inr (10, [.ref a_p0_tape, .ref a_p0_rules, .ref a_p0_state, .int z23, .int z24, .int z2, .int z3, .int z4, .ref a_p0_numbers])), (a_p0_tape, .inr (9, [.ref a_p0_tape_bytes, .int i_p0_tape_length, .int z19, .int z20, .int z21, .int i_p0_tape_value])), (a_p0_tape_bytes, .inl (G 0, 320, .inl v_p0_tape_bytes)), (a_p0_rules, .inr (6, [.int z6, .int z7, .ref a_p0_rules_need, .ref a_p0_rules_kind, .ref a_p0_rules_first, .ref a_p0_rules_second, .ref a_p0_rules_after])), (a_p0_rules_need, .inl (G 1, 7, .inl w8)), (a_p0_state, .inr (8, [.ref a_p0_state_pieces, .ref a_p0_state_friends, .ref a_p0_state_spoons, .ref a_p0_state_eaten, .ref a_p0_state_seen, .int z9, .int z10, .int z11, .int z12])), (a_p0_state_pieces, .inl (G 1, 7, .inl w13)), (a_p0_state_friends, .inl (G 1, 7, .inl w14)), (a_p0_state_spoons, .inl (G 1, 7, .inl w15)), (a_p0_state_eaten, .inl (G 1, 7, .inl w16))]) (va_runV (As := []) (rest := []) ⟨hx, hb, hml, hown, hts⟩ (c_X6_workOutStirs (l := l) (D := D) (G := G) (sz := H.size) (a_p0 := a_p0_rules) (a_p0_need := a_p0_rules_need) (a_p0_kind := a_p0_rules_kind) (a_p0_first := a_p0_rules_first) (a_p0_second := a_p0_rules_second) (a_p0_after := a_p0_rules_after) (i_p0_seats := z6) (i_p0_stirs := z7) (hf := hcall)) (cwV 0 hts gX10_readTape_X6_workOutStirs rfl rfl rfl (by decide +kernel) ⟨Nat.le_of_ble_eq_true rfl, Nat.le_of_ble_eq_true rfl⟩) (preG_V (ci := 6) (hP.sub [3] rfl) (hD.sub [3] rfl rfl) hK rfl rfl) rfl rfl hl.1 rfl (lv_room (Nat.le_of_ble_eq_true rfl)) dX10_readTape_84 ⟨Nat.le_of_ble_eq_true rfl, Nat.le_of_ble_eq_true rfl⟩) hP hD hS hA [3] [0, 1, 2, 4, 5, 6, 7, 8, 9] [0, 1, 2, 9, 3, 4, 5, 6, 7, 8] rfl rfl rfl (by decide) rfl rfl rfl (fun H locs hP hD hS => ?_)
        clear hcall
        refine lv_aload_n hx hb dX10_readTape_87 rfl (lv_at hl 0 rfl) ?_
        refine va_get (D := D) (ci := 10) (v := .int z2) (C := RX10) (T := TX10) (N := 9) hx hb hts inX10_readTape_X10 hown hK hP 0 rfl rfl 5 (by decide) (hts _ mwX10_readTape_3) (fun _ h9 => h9) rfl dX10_readTape_88 ?_
        obtain ⟨rfl, rfl, rfl, rfl, rfl, rfl, rfl, rfl, rfl, rfl, rfl, rfl, rfl, rfl, rfl, rfl, rfl, rfl, rfl, rfl⟩ := ou20 hf
        rw [hQ]
        exact W.iret hx hb hr (fun t ht hW => ⟨⟨_, (), rfl, rfl, by rw [ht]; exact hP, va_K.moved hW.alike hK, hD⟩, hS.F ht⟩) hS.2.2 dX10_readTape_91
      ·
        replace hf := ite_f cc hf
        clear cc
        refine lv_bipush (v := (-10 : Int32)) hx hb dX10_readTape_72 (by decide) ?_
        refine lv_aload_n hx hb dX10_readTape_74 rfl (lv_at hl 0 rfl) ?_
        refine va_get (D := D) (ci := 10) (v := .int z24) (C := RX10) (T := TX10) (N := 9) hx hb hts inX10_readTape_X10 hown hK hP 0 rfl rfl 4 (by decide) (hts _ mwX10_readTape_4) (fun _ h9 => h9) rfl dX10_readTape_75 ?_
        refine lv_isub hx hb dX10_readTape_78 ?_
        obtain ⟨rfl, rfl, rfl, rfl, rfl, rfl, rfl, rfl, rfl, rfl, rfl, rfl, rfl, rfl, rfl, rfl, rfl, rfl, rfl, rfl⟩ := ou20 hf
        rw [hQ]
        exact W.iret hx hb hr (fun t ht hW => ⟨⟨_, (), rfl, rfl, by rw [ht]; exact hP, va_K.moved hW.alike hK, hD⟩, hS.F ht⟩) hS.2.2 dX10_readTape_79
    refine lv_if_ne (tgt := 65) hx hb dX10_readTape_34 (by decide) (fun cc => ?_) (fun cc => ?_)
    ·
      replace hf := ite_f cc hf
      clear cc
      exact hJ25 _ _ _ _ _ (lv_sub hl [0] rfl) hP hD hS hf
    ·
      replace hf := ite_t cc hf
      clear cc
      refine lv_aload_n hx hb dX10_readTape_37 rfl (lv_at hl 0 rfl) ?_
      refine va_get (D := D) (ci := 10) (v := .int z4) (C := RX10) (T := TX10) (N := 9) hx hb hts inX10_readTape_X10 hown hK hP 0 rfl rfl 7 (by decide) (hts _ mwX10_readTape_5) (fun _ h9 => h9) rfl dX10_readTape_38 ?_
      refine lv_aload_n hx hb dX10_readTape_41 rfl (lv_at hl 0 rfl) ?_
      refine va_get (D := D) (ci := 10) (v := .ref a_p0_rules) (C := RX10) (T := TX10) (N := 9) hx hb hts inX10_readTape_X10 hown hK hP 0 rfl rfl 1 (by decide) (hts _ mwX10_readTape_2) (fun _ h9 => h9) rfl dX10_readTape_42 ?_
      refine va_get (D := D) (ci := 6) (v := .int z6) (C := RX6) (T := TX6) (N := 7) hx hb hts inX10_readTape_X6 hown hK hP 3 rfl rfl 0 (by decide) (hts _ mwX10_readTape_7) (fun _ h9 => h9) rfl dX10_readTape_45 ?_
      refine lv_icmp_lt (tgt := 65) hx hb dX10_readTape_48 (by decide) (fun cc => ?_) (fun cc => ?_)
      ·
        replace hf := ite_t cc hf
        clear cc
        exact hJ25 _ _ _ _ _ (lv_sub hl [0] rfl) hP hD hS hf
      ·
        replace hf := ite_f cc hf
        clear cc
        refine lv_aload_n hx hb dX10_readTape_51 rfl (lv_at hl 0 rfl) ?_
        refine lv_bipush (v := (6 : Int32)) hx hb dX10_readTape_52 (by decide) ?_
        refine lv_aload_n hx hb dX10_readTape_54 rfl (lv_at hl 0 rfl) ?_
        refine va_get (D := D) (ci := 10) (v := .ref a_p0_tape) (C := RX10) (T := TX10) (N := 9) hx hb hts inX10_readTape_X10 hown hK hP 0 rfl rfl 0 (by decide) (hts _ mwX10_readTape_8) (fun _ h9 => h9) rfl dX10_readTape_55 ?_
        refine va_get (D := D) (ci := 9) (v := .int i_p0_tape_length) (C := RX9) (T := TX9) (N := 6) hx hb hts inX10_readTape_X9 hown hK hP 1 rfl rfl 1 (by decide) (hts _ mwX10_readTape_10) (fun _ h9 => h9) rfl dX10_readTape_58 ?_
        have hq := bd3_s hf
        clear hf
        obtain ⟨z26, z27, z28, hcall, hf⟩ := hq
        refine gcI (ws' := [(a_p0, .inr (10, [.ref a_p0_tape, .ref a_p0_rules, .ref a_p0_state, .int z27, .int z28, .int z2, .int z3, .int z4, .ref a_p0_numbers])), (a_p0_tape, .inr (9, [.ref a_p0_tape_bytes, .int i_p0_tape_length, .int z19, .int z20, .int z21, .int i_p0_tape_value])), (a_p0_tape_bytes, .inl (G 0, 320, .inl v_p0_tape_bytes)), (a_p0_rules, .inr (6, [.int z6, .int z7, .ref a_p0_rules_need, .ref a_p0_rules_kind, .ref a_p0_rules_first, .ref a_p0_rules_second, .ref a_p0_rules_after])), (a_p0_rules_need, .inl (G 1, 7, .inl w8)), (a_p0_state, .inr (8, [.ref a_p0_state_pieces, .ref a_p0_state_friends, .ref a_p0_state_spoons, .ref a_p0_state_eaten, .ref a_p0_state_seen, .int z9, .int z10, .int z11, .int z12])), (a_p0_state_pieces, .inl (G 1, 7, .inl w13)), (a_p0_state_friends, .inl (G 1, 7, .inl w14)), (a_p0_state_spoons, .inl (G 1, 7, .inl w15)), (a_p0_state_eaten, .inl (G 1, 7, .inl w16))]) (va_runV (As := [.int (6 : Int32), .int i_p0_tape_length]) (rest := []) ⟨hx, hb, hml, hown, hts⟩ (c_X10_refuse (l := l) (D := D) (G := G) (sz := H.size) (a_p0 := a_p0) (a_p0_tape := a_p0_tape) (a_p0_rules := a_p0_rules) (a_p0_state := a_p0_state) (a_p0_numbers := a_p0_numbers) (i_p0_faultFound := z1) (i_p0_faultPlace := i_p0_faultPlace) (i_p0_lines := z2) (i_p0_met := z3) (i_p0_greatest := z4) (x1 := (6 : Int32)) (x2 := i_p0_tape_length) (r := z26) (o_i_p0_faultFound := z27) (o_i_p0_faultPlace := z28) (hf := hcall)) (cwV 2 hts gX10_readTape_X10_refuse rfl rfl rfl (by decide +kernel) ⟨Nat.le_of_ble_eq_true rfl, Nat.le_of_ble_eq_true rfl⟩) (preG_V (ci := 10) (hP.sub [0] rfl) (hD.sub [0] rfl rfl) hK rfl rfl) rfl rfl hl.1 rfl (lv_room (Nat.le_of_ble_eq_true rfl)) dX10_readTape_61 ⟨Nat.le_of_ble_eq_true rfl, Nat.le_of_ble_eq_true rfl⟩) hP hD hS hA [0] [1, 2, 3, 4, 5, 6, 7, 8, 9] [9, 0, 1, 2, 3, 4, 5, 6, 7, 8] rfl rfl rfl (by decide) rfl rfl rfl (fun H locs hP hD hS => ?_)
        clear hcall
        refine lv_pop hx hb dX10_readTape_64 rfl ?_
        exact hJ25 _ _ _ _ _ (lv_sub hl [0] rfl) hP hD hS hf
  have hq := lq5_i hf
  clear hf
  obtain ⟨B34, eB34, NB34, hf⟩ := hq
  have hB34 : ∀ (n : Nat) (z29 : Int32) (z30 : Int32) (z31 : Int32) (z32 : Int32) (z33 : Int32) (ls : Array Slot) (H : Heap) (locs : List Loc), lv_has ls 3 [(2, .int z29), (1, .int z30), (0, .ref a_p0)] → va_P D vwCl [(a_p0, .inr (10, [.ref a_p0_tape, .ref a_p0_rules, .ref a_p0_state, .int z1, .int i_p0_faultPlace, .int z2, .int z3, .int z4, .ref a_p0_numbers])), (a_p0_tape, .inr (9, [.ref a_p0_tape_bytes, .int i_p0_tape_length, .int z31, .int z32, .int z33, .int i_p0_tape_value])), (a_p0_tape_bytes, .inl (G 0, 320, .inl v_p0_tape_bytes)), (a_p0_rules, .inr (6, [.int z6, .int z7, .ref a_p0_rules_need, .ref a_p0_rules_kind, .ref a_p0_rules_first, .ref a_p0_rules_second, .ref a_p0_rules_after])), (a_p0_rules_need, .inl (G 1, 7, .inl w8)), (a_p0_state, .inr (8, [.ref a_p0_state_pieces, .ref a_p0_state_friends, .ref a_p0_state_spoons, .ref a_p0_state_eaten, .ref a_p0_state_seen, .int z9, .int z10, .int z11, .int z12])), (a_p0_state_pieces, .inl (G 1, 7, .inl w13)), (a_p0_state_friends, .inl (G 1, 7, .inl w14)), (a_p0_state_spoons, .inl (G 1, 7, .inl w15)), (a_p0_state_eaten, .inl (G 1, 7, .inl w16))] H → va_D A [(a_p0, .inr (10, [.ref a_p0_tape, .ref a_p0_rules, .ref a_p0_state, .int z1, .int i_p0_faultPlace, .int z2, .int z3, .int z4, .ref a_p0_numbers])), (a_p0_tape, .inr (9, [.ref a_p0_tape_bytes, .int i_p0_tape_length, .int z31, .int z32, .int z33, .int i_p0_tape_value])), (a_p0_tape_bytes, .inl (G 0, 320, .inl v_p0_tape_bytes)), (a_p0_rules, .inr (6, [.int z6, .int z7, .ref a_p0_rules_need, .ref a_p0_rules_kind, .ref a_p0_rules_first, .ref a_p0_rules_second, .ref a_p0_rules_after])), (a_p0_rules_need, .inl (G 1, 7, .inl w8)), (a_p0_state, .inr (8, [.ref a_p0_state_pieces, .ref a_p0_state_friends, .ref a_p0_state_spoons, .ref a_p0_state_eaten, .ref a_p0_state_seen, .int z9, .int z10, .int z11, .int z12])), (a_p0_state_pieces, .inl (G 1, 7, .inl w13)), (a_p0_state_friends, .inl (G 1, 7, .inl w14)), (a_p0_state_spoons, .inl (G 1, 7, .inl w15)), (a_p0_state_eaten, .inl (G 1, 7, .inl w16))] → va_S A s.heap H locs → lq5 B34 n z29 z30 z31 z32 z33 = some (r, o_i_p0_faultFound, o_i_p0_faultPlace, o_i_p0_lines, o_i_p0_met, o_i_p0_greatest, o_i_p0_tape_at, o_i_p0_tape_token, o_i_p0_tape_start, o_i_p0_rules_seats, o_i_p0_rules_stirs, o_v_p0_rules_need, o_i_p0_state_seenDays, o_i_p0_state_bone, o_i_p0_state_king, o_i_p0_state_days, o_v_p0_state_pieces, o_v_p0_state_friends, o_v_p0_state_spoons, o_v_p0_state_eaten) → W p l e rm_X10_readTape s m ([.ref a_p0] : List Value).toArray below meth c H locs 0 0 Q (F0 m 8 ls []) := by
    clear hf hl hP hD hS
    intro n
    induction n with
    | zero =>
      intro z29 z30 z31 z32 z33 ls H locs hl hP hD hS hf
      exact (lq5_0 hf).elim
    | succ n ih8 =>
      intro z29 z30 z31 z32 z33 ls H locs hl hP hD hS hf
      replace hf := lq5_s eB34 hf
      unfold B_X10_readTape_8 at hf
      refine lv_iload_n hx hb dX10_readTape_8 rfl (lv_at hl 0 rfl) ?_
      refine lv_sipush (v := (320 : Int32)) hx hb dX10_readTape_9 (by decide) ?_
      refine lv_icmp_gt (tgt := 30) hx hb dX10_readTape_12 (by decide) (fun cc => ?_) (fun cc => ?_)
      ·
        replace hf := ite_t cc hf
        clear cc
        exact hJ22 _ _ _ _ _ _ (lv_sub hl [2] rfl) hP hD hS hf
      ·
        replace hf := ite_f cc hf
        clear cc
        refine lv_iload_n hx hb dX10_readTape_15 rfl (lv_at hl 1 rfl) ?_
        refine lv_if_eq (tgt := 30) hx hb dX10_readTape_16 (by decide) (fun cc => ?_) (fun cc => ?_)
        ·
          replace hf := ite_t cc hf
          clear cc
          exact hJ22 _ _ _ _ _ _ (lv_sub hl [2] rfl) hP hD hS hf
        ·
          replace hf := ite_f cc hf
          clear cc
          refine lv_aload_n hx hb dX10_readTape_19 rfl (lv_at hl 2 rfl) ?_
          have hq := bd4_s hf
          clear hf
          obtain ⟨z35, z36, z37, z38, hcall, hf⟩ := hq
          refine gcI (ws' := [(a_p0, .inr (10, [.ref a_p0_tape, .ref a_p0_rules, .ref a_p0_state, .int z1, .int i_p0_faultPlace, .int z2, .int z3, .int z4, .ref a_p0_numbers])), (a_p0_tape, .inr (9, [.ref a_p0_tape_bytes, .int i_p0_tape_length, .int z36, .int z37, .int z38, .int i_p0_tape_value])), (a_p0_tape_bytes, .inl (G 0, 320, .inl v_p0_tape_bytes)), (a_p0_rules, .inr (6, [.int z6, .int z7, .ref a_p0_rules_need, .ref a_p0_rules_kind, .ref a_p0_rules_first, .ref a_p0_rules_second, .ref a_p0_rules_after])), (a_p0_rules_need, .inl (G 1, 7, .inl w8)), (a_p0_state, .inr (8, [.ref a_p0_state_pieces, .ref a_p0_state_friends, .ref a_p0_state_spoons, .ref a_p0_state_eaten, .ref a_p0_state_seen, .int z9, .int z10, .int z11, .int z12])), (a_p0_state_pieces, .inl (G 1, 7, .inl w13)), (a_p0_state_friends, .inl (G 1, 7, .inl w14)), (a_p0_state_spoons, .inl (G 1, 7, .inl w15)), (a_p0_state_eaten, .inl (G 1, 7, .inl w16))]) (va_runV (As := []) (rest := []) ⟨hx, hb, hml, hown, hts⟩ (c_X10_readLine (l := l) (D := D) (G := G) (sz := H.size) (a_p0 := a_p0) (a_p0_tape := a_p0_tape) (a_p0_rules := a_p0_rules) (a_p0_state := a_p0_state) (a_p0_numbers := a_p0_numbers) (a_p0_tape_bytes := a_p0_tape_bytes) (i_p0_faultFound := z1) (i_p0_faultPlace := i_p0_faultPlace) (i_p0_lines := z2) (i_p0_met := z3) (i_p0_greatest := z4) (i_p0_tape_length := i_p0_tape_length) (i_p0_tape_at := z31) (i_p0_tape_token := z32) (i_p0_tape_start := z33) (i_p0_tape_value := i_p0_tape_value) (v_p0_tape_bytes := v_p0_tape_bytes) (r := z35) (o_i_p0_tape_at := z36) (o_i_p0_tape_token := z37) (o_i_p0_tape_start := z38) (hf := hcall)) (cwV 0 hts gX10_readTape_X10_readLine rfl rfl rfl (by decide +kernel) ⟨Nat.le_of_ble_eq_true rfl, Nat.le_of_ble_eq_true rfl⟩) (preG_V (ci := 10) (hP.sub [0, 1, 2] rfl) (hD.sub [0, 1, 2] rfl rfl) hK rfl rfl) rfl rfl hl.1 rfl (lv_room (Nat.le_of_ble_eq_true rfl)) dX10_readTape_20 ⟨Nat.le_of_ble_eq_true rfl, Nat.le_of_ble_eq_true rfl⟩) hP hD hS hA [0, 1, 2] [3, 4, 5, 6, 7, 8, 9] [7, 8, 9, 0, 1, 2, 3, 4, 5, 6] rfl rfl rfl (by decide) rfl rfl rfl (fun H locs hP hD hS => ?_)
          clear hcall
          refine lv_topi (fun z39 ez => ?_)
          replace hf := bnd_s hf ez
          clear ez
          refine lv_istore_n (lv' := [(1, .int z39), (2, .int z29), (0, .ref a_p0)]) hx hb dX10_readTape_23 rfl hl (by decide) rfl (fun ls hl => ?_)
          obtain ⟨z40, ez⟩ : ∃ y : Int32, y = (z29 + (1 : Int32)) := ⟨_, rfl⟩
          replace hf := bnd_s hf ez
          refine lv_iinc (v := z40) (lv' := [(2, .int z40), (1, .int z39), (0, .ref a_p0)]) hx hb dX10_readTape_24 hl (k := 1) rfl (by rw [ez]; rfl) (by decide) rfl (fun ls hl => ?_)
          clear ez
          refine lv_goto (tgt := 8) hx hb dX10_readTape_27 (by decide) ?_
          exact ih8 _ _ _ _ _ _ _ _ (lv_sub hl [0, 1, 2] rfl) hP hD hS hf
  exact hB34 _ _ _ _ _ _ _ _ _ (lv_sub hl [0, 1, 2] rfl) hP hD hS hf

noncomputable def f_X11_feed (i_p0_tape_length : Int32) (v_p0_tape_bytes : (Nat → Int32)) (x1 : Int64) : Option (Int32 × Int32 × (Nat → Int32)) := (bd3 (f_X9_append i_p0_tape_length v_p0_tape_bytes x1) (fun (z1 : Int32) (z2 : Int32) (w3 : (Nat → Int32)) => (if z1 = 0 then (some ((-3 : Int32), z2, w3)) else (some (z2, z2, w3)))))
abbrev rm_X11_feed : Room := { frames := 1, cells := 0, slots := 0, locals := 23 }
theorem inX11_feed_X11 : ∀ w ∈ wsX110, w ∈ wsX11_feed := by decide +kernel
theorem mwX11_feed_1 : Cond.fieldLink RX11 26 "LadleKings" "tape" "LLadleKings$Tape;" ∈ wsX11_feed := by decide +kernel
theorem inX11_feed_X9 : ∀ w ∈ wsX90, w ∈ wsX11_feed := by decide +kernel
theorem mwX11_feed_3 : Cond.fieldLink RX11 111 "LadleKings$Tape" "length" "I" ∈ wsX11_feed := by decide +kernel
set_option maxHeartbeats 8000000 in
set_option maxRecDepth 100000 in
theorem c_X11_feed (l : Launch) (D : va_G) (G : Nat → ClassId) (sz : Nat) (a_p0 : Nat) (a_p0_rules : Nat) (a_p0_state : Nat) (a_p0_tape : Nat) (a_p0_reader : Nat) (a_p0_kitchen : Nat) (a_p0_luck : Nat) (a_p0_plans : Nat) (a_p0_coups : Nat) (a_p0_past : Nat) (a_p0_fairDays : Nat) (a_p0_images : Nat) (a_p0_imageHeld : Nat) (a_p0_sheets : Nat) (a_p0_tape_bytes : Nat) (i_p0_latestFault : Int32) (i_p0_latestTear : Int32) (i_p0_tape_length : Int32) (i_p0_tape_at : Int32) (i_p0_tape_token : Int32) (i_p0_tape_start : Int32) (i_p0_tape_value : Int32) (v_p0_tape_bytes : (Nat → Int32)) (x1 : Int64) (r : Int32) (o_i_p0_tape_length : Int32) (o_v_p0_tape_bytes : (Nat → Int32)) (hf : f_X11_feed i_p0_tape_length v_p0_tape_bytes x1 = some (r, o_i_p0_tape_length, o_v_p0_tape_bytes)) : Met l yX11_feed wsX11_feed rm_X11_feed (pcG D G [.ref a_p0, .long x1] sz [(a_p0, .inr (11, [.ref a_p0_rules, .ref a_p0_state, .ref a_p0_tape, .ref a_p0_reader, .ref a_p0_kitchen, .ref a_p0_luck, .ref a_p0_plans, .ref a_p0_coups, .ref a_p0_past, .ref a_p0_fairDays, .ref a_p0_images, .ref a_p0_imageHeld, .ref a_p0_sheets, .int i_p0_latestFault, .int i_p0_latestTear])), (a_p0_tape, .inr (9, [.ref a_p0_tape_bytes, .int i_p0_tape_length, .int i_p0_tape_at, .int i_p0_tape_token, .int i_p0_tape_start, .int i_p0_tape_value])), (a_p0_tape_bytes, .inl (G 0, 320, .inl v_p0_tape_bytes))]) (qcI D G r [(a_p0, .inr (11, [.ref a_p0_rules, .ref a_p0_state, .ref a_p0_tape, .ref a_p0_reader, .ref a_p0_kitchen, .ref a_p0_luck, .ref a_p0_plans, .ref a_p0_coups, .ref a_p0_past, .ref a_p0_fairDays, .ref a_p0_images, .ref a_p0_imageHeld, .ref a_p0_sheets, .int i_p0_latestFault, .int i_p0_latestTear])), (a_p0_tape, .inr (9, [.ref a_p0_tape_bytes, .int o_i_p0_tape_length, .int i_p0_tape_at, .int i_p0_tape_token, .int i_p0_tape_start, .int i_p0_tape_value])), (a_p0_tape_bytes, .inl (G 0, 320, .inl o_v_p0_tape_bytes))] (va_A [(a_p0, .inr (11, [.ref a_p0_rules, .ref a_p0_state, .ref a_p0_tape, .ref a_p0_reader, .ref a_p0_kitchen, .ref a_p0_luck, .ref a_p0_plans, .ref a_p0_coups, .ref a_p0_past, .ref a_p0_fairDays, .ref a_p0_images, .ref a_p0_imageHeld, .ref a_p0_sheets, .int i_p0_latestFault, .int i_p0_latestTear])), (a_p0_tape, .inr (9, [.ref a_p0_tape_bytes, .int i_p0_tape_length, .int i_p0_tape_at, .int i_p0_tape_token, .int i_p0_tape_start, .int i_p0_tape_value])), (a_p0_tape_bytes, .inl (G 0, 320, .inl v_p0_tape_bytes))] sz)) 0 0 (va_A [(a_p0, .inr (11, [.ref a_p0_rules, .ref a_p0_state, .ref a_p0_tape, .ref a_p0_reader, .ref a_p0_kitchen, .ref a_p0_luck, .ref a_p0_plans, .ref a_p0_coups, .ref a_p0_past, .ref a_p0_fairDays, .ref a_p0_images, .ref a_p0_imageHeld, .ref a_p0_sheets, .int i_p0_latestFault, .int i_p0_latestTear])), (a_p0_tape, .inr (9, [.ref a_p0_tape_bytes, .int i_p0_tape_length, .int i_p0_tape_at, .int i_p0_tape_token, .int i_p0_tape_start, .int i_p0_tape_value])), (a_p0_tape_bytes, .inl (G 0, 320, .inl v_p0_tape_bytes))] sz) := by
  refine Met.ofW (cc := cX11_feed) (maxL := 3) (ret := (some .int)) (by decide) rfl ?_
  intro p e s m args below meth c s₁ B hml hv
  obtain ⟨rfl, hsz, hP, hK, hD0⟩ := hv
  have hx := B.exec
  have hb := B.bytes
  have hr := B.returns
  have hts := atoms_spec (ws := wsX11_feed) B.pre
  have hown : s.vm.findClass RX11 = some m.cls := findClass_of_methodNamed B.named
  have hlocks := B.notSynchronized
  subst hsz
  have hD := hD0.self (sz := s.heap.size)
  generalize hAe : va_A [(a_p0, .inr (11, [.ref a_p0_rules, .ref a_p0_state, .ref a_p0_tape, .ref a_p0_reader, .ref a_p0_kitchen, .ref a_p0_luck, .ref a_p0_plans, .ref a_p0_coups, .ref a_p0_past, .ref a_p0_fairDays, .ref a_p0_images, .ref a_p0_imageHeld, .ref a_p0_sheets, .int i_p0_latestFault, .int i_p0_latestTear])), (a_p0_tape, .inr (9, [.ref a_p0_tape_bytes, .int i_p0_tape_length, .int i_p0_tape_at, .int i_p0_tape_token, .int i_p0_tape_start, .int i_p0_tape_value])), (a_p0_tape_bytes, .inl (G 0, 320, .inl v_p0_tape_bytes))] s.heap.size = A at hD ⊢
  have hA : ∀ q : Nat, s.heap.size ≤ q → A q := fun q h => by rw [← hAe]; exact Or.inr h
  clear hAe hD0
  have hS : va_S A s.heap s.heap [] := va_S.rf
  have hl := lv_entry ([.ref a_p0, .long x1]) (n := 3) (Nat.le_of_ble_eq_true rfl)
  rw [lg_entry_eq]
  generalize (lg_sl ([.ref a_p0, .long x1]) ++ List.replicate (3 - (lg_sl ([.ref a_p0, .long x1])).length) Slot.unset).toArray = ls at hl ⊢
  have hl : lv_has ls 3 [(0, .ref a_p0), (1, .long x1)] := hl
  refine W_nameQ (fun Q hQ => ?_)
  obtain ⟨H, hH⟩ : ∃ H, H = s.heap := ⟨_, rfl⟩
  replace hS : va_S A s.heap H [] := by rw [hH]; exact hS
  replace hP : va_P D vwCl [(a_p0, .inr (11, [.ref a_p0_rules, .ref a_p0_state, .ref a_p0_tape, .ref a_p0_reader, .ref a_p0_kitchen, .ref a_p0_luck, .ref a_p0_plans, .ref a_p0_coups, .ref a_p0_past, .ref a_p0_fairDays, .ref a_p0_images, .ref a_p0_imageHeld, .ref a_p0_sheets, .int i_p0_latestFault, .int i_p0_latestTear])), (a_p0_tape, .inr (9, [.ref a_p0_tape_bytes, .int i_p0_tape_length, .int i_p0_tape_at, .int i_p0_tape_token, .int i_p0_tape_start, .int i_p0_tape_value])), (a_p0_tape_bytes, .inl (G 0, 320, .inl v_p0_tape_bytes))] H := by rw [hH]; exact hP
  rw [← hH]
  clear hH
  unfold f_X11_feed at hf
  refine lv_aload_n hx hb dX11_feed_0 rfl (lv_at hl 0 rfl) ?_
  refine va_get (D := D) (ci := 11) (v := .ref a_p0_tape) (C := RX11) (T := TX11) (N := 15) hx hb hts inX11_feed_X11 hown hK hP 0 rfl rfl 2 (by decide) (hts _ mwX11_feed_1) (fun _ h9 => h9) rfl dX11_feed_1 ?_
  refine lv_lload_n hx hb dX11_feed_4 rfl (lv_at hl 1 rfl) ?_
  have hq := bd3_s hf
  clear hf
  obtain ⟨z1, z2, w3, hcall, hf⟩ := hq
  refine gcI (ws' := [(a_p0, .inr (11, [.ref a_p0_rules, .ref a_p0_state, .ref a_p0_tape, .ref a_p0_reader, .ref a_p0_kitchen, .ref a_p0_luck, .ref a_p0_plans, .ref a_p0_coups, .ref a_p0_past, .ref a_p0_fairDays, .ref a_p0_images, .ref a_p0_imageHeld, .ref a_p0_sheets, .int i_p0_latestFault, .int i_p0_latestTear])), (a_p0_tape, .inr (9, [.ref a_p0_tape_bytes, .int z2, .int i_p0_tape_at, .int i_p0_tape_token, .int i_p0_tape_start, .int i_p0_tape_value])), (a_p0_tape_bytes, .inl (G 0, 320, .inl w3))]) (va_runV (As := [.long x1]) (rest := []) ⟨hx, hb, hml, hown, hts⟩ (c_X9_append (l := l) (D := D) (G := G) (sz := H.size) (a_p0 := a_p0_tape) (a_p0_bytes := a_p0_tape_bytes) (i_p0_length := i_p0_tape_length) (i_p0_at := i_p0_tape_at) (i_p0_token := i_p0_tape_token) (i_p0_start := i_p0_tape_start) (i_p0_value := i_p0_tape_value) (v_p0_bytes := v_p0_tape_bytes) (x1 := x1) (r := z1) (o_i_p0_length := z2) (o_v_p0_bytes := w3) (hf := hcall)) (cwV 1 hts gX11_feed_X9_append rfl rfl rfl (by decide +kernel) ⟨Nat.le_of_ble_eq_true rfl, Nat.le_of_ble_eq_true rfl⟩) (preG_V (ci := 9) (hP.sub [1, 2] rfl) (hD.sub [1, 2] rfl rfl) hK rfl rfl) rfl rfl hl.1 rfl (lv_room (Nat.le_of_ble_eq_true rfl)) dX11_feed_5 ⟨Nat.le_of_ble_eq_true rfl, Nat.le_of_ble_eq_true rfl⟩) hP hD hS hA [1, 2] [0] [0, 1, 2] rfl rfl rfl (by decide) rfl rfl rfl (fun H locs hP hD hS => ?_)
  clear hcall
  refine lv_if_eq (tgt := 21) hx hb dX11_feed_8 (by decide) (fun cc => ?_) (fun cc => ?_)
  ·
    replace hf := ite_t cc hf
    clear cc
    refine lv_bipush (v := (-3 : Int32)) hx hb dX11_feed_21 (by decide) ?_
    obtain ⟨rfl, rfl, rfl⟩ := ou3 hf
    rw [hQ]
    exact W.iret hx hb hr (fun t ht hW => ⟨⟨_, (), rfl, rfl, by rw [ht]; exact hP, va_K.moved hW.alike hK, hD⟩, hS.F ht⟩) hS.2.2 dX11_feed_23
  ·
    replace hf := ite_f cc hf
    clear cc
    refine lv_aload_n hx hb dX11_feed_11 rfl (lv_at hl 0 rfl) ?_
    refine va_get (D := D) (ci := 11) (v := .ref a_p0_tape) (C := RX11) (T := TX11) (N := 15) hx hb hts inX11_feed_X11 hown hK hP 0 rfl rfl 2 (by decide) (hts _ mwX11_feed_1) (fun _ h9 => h9) rfl dX11_feed_12 ?_
    refine va_get (D := D) (ci := 9) (v := .int z2) (C := RX9) (T := TX9) (N := 6) hx hb hts inX11_feed_X9 hown hK hP 1 rfl rfl 1 (by decide) (hts _ mwX11_feed_3) (fun _ h9 => h9) rfl dX11_feed_15 ?_
    refine lv_goto (tgt := 23) hx hb dX11_feed_18 (by decide) ?_
    obtain ⟨rfl, rfl, rfl⟩ := ou3 hf
    rw [hQ]
    exact W.iret hx hb hr (fun t ht hW => ⟨⟨_, (), rfl, rfl, by rw [ht]; exact hP, va_K.moved hW.alike hK, hD⟩, hS.F ht⟩) hS.2.2 dX11_feed_23

noncomputable def f_X11_end (i_p0_tape_length : Int32) (x1 : Int32) : Option (Int32 × Int32) := (if x1 < 0 then (some ((-1 : Int32), i_p0_tape_length)) else (if x1 ≤ i_p0_tape_length then (bnd i_p0_tape_length (fun (z1 : Int32) => (bnd x1 (fun (z2 : Int32) => (some (z1, z2)))))) else (some ((-1 : Int32), i_p0_tape_length))))
abbrev rm_X11_end : Room := { frames := 0, cells := 0, slots := 0, locals := 0 }
theorem inX11_end_X11 : ∀ w ∈ wsX110, w ∈ wsX11_end := by decide +kernel
theorem mwX11_end_1 : Cond.fieldLink RX11 26 "LadleKings" "tape" "LLadleKings$Tape;" ∈ wsX11_end := by decide +kernel
theorem inX11_end_X9 : ∀ w ∈ wsX90, w ∈ wsX11_end := by decide +kernel
theorem mwX11_end_3 : Cond.fieldLink RX11 111 "LadleKings$Tape" "length" "I" ∈ wsX11_end := by decide +kernel
set_option maxHeartbeats 8000000 in
set_option maxRecDepth 100000 in
theorem c_X11_end (l : Launch) (D : va_G) (G : Nat → ClassId) (sz : Nat) (a_p0 : Nat) (a_p0_rules : Nat) (a_p0_state : Nat) (a_p0_tape : Nat) (a_p0_reader : Nat) (a_p0_kitchen : Nat) (a_p0_luck : Nat) (a_p0_plans : Nat) (a_p0_coups : Nat) (a_p0_past : Nat) (a_p0_fairDays : Nat) (a_p0_images : Nat) (a_p0_imageHeld : Nat) (a_p0_sheets : Nat) (a_p0_tape_bytes : Nat) (i_p0_latestFault : Int32) (i_p0_latestTear : Int32) (i_p0_tape_length : Int32) (i_p0_tape_at : Int32) (i_p0_tape_token : Int32) (i_p0_tape_start : Int32) (i_p0_tape_value : Int32) (x1 : Int32) (r : Int32) (o_i_p0_tape_length : Int32) (hf : f_X11_end i_p0_tape_length x1 = some (r, o_i_p0_tape_length)) : Met l yX11_end wsX11_end rm_X11_end (pcG D G [.ref a_p0, .int x1] sz [(a_p0, .inr (11, [.ref a_p0_rules, .ref a_p0_state, .ref a_p0_tape, .ref a_p0_reader, .ref a_p0_kitchen, .ref a_p0_luck, .ref a_p0_plans, .ref a_p0_coups, .ref a_p0_past, .ref a_p0_fairDays, .ref a_p0_images, .ref a_p0_imageHeld, .ref a_p0_sheets, .int i_p0_latestFault, .int i_p0_latestTear])), (a_p0_tape, .inr (9, [.ref a_p0_tape_bytes, .int i_p0_tape_length, .int i_p0_tape_at, .int i_p0_tape_token, .int i_p0_tape_start, .int i_p0_tape_value]))]) (qcI D G r [(a_p0, .inr (11, [.ref a_p0_rules, .ref a_p0_state, .ref a_p0_tape, .ref a_p0_reader, .ref a_p0_kitchen, .ref a_p0_luck, .ref a_p0_plans, .ref a_p0_coups, .ref a_p0_past, .ref a_p0_fairDays, .ref a_p0_images, .ref a_p0_imageHeld, .ref a_p0_sheets, .int i_p0_latestFault, .int i_p0_latestTear])), (a_p0_tape, .inr (9, [.ref a_p0_tape_bytes, .int o_i_p0_tape_length, .int i_p0_tape_at, .int i_p0_tape_token, .int i_p0_tape_start, .int i_p0_tape_value]))] (va_A [(a_p0, .inr (11, [.ref a_p0_rules, .ref a_p0_state, .ref a_p0_tape, .ref a_p0_reader, .ref a_p0_kitchen, .ref a_p0_luck, .ref a_p0_plans, .ref a_p0_coups, .ref a_p0_past, .ref a_p0_fairDays, .ref a_p0_images, .ref a_p0_imageHeld, .ref a_p0_sheets, .int i_p0_latestFault, .int i_p0_latestTear])), (a_p0_tape, .inr (9, [.ref a_p0_tape_bytes, .int i_p0_tape_length, .int i_p0_tape_at, .int i_p0_tape_token, .int i_p0_tape_start, .int i_p0_tape_value]))] sz)) 0 0 (va_A [(a_p0, .inr (11, [.ref a_p0_rules, .ref a_p0_state, .ref a_p0_tape, .ref a_p0_reader, .ref a_p0_kitchen, .ref a_p0_luck, .ref a_p0_plans, .ref a_p0_coups, .ref a_p0_past, .ref a_p0_fairDays, .ref a_p0_images, .ref a_p0_imageHeld, .ref a_p0_sheets, .int i_p0_latestFault, .int i_p0_latestTear])), (a_p0_tape, .inr (9, [.ref a_p0_tape_bytes, .int i_p0_tape_length, .int i_p0_tape_at, .int i_p0_tape_token, .int i_p0_tape_start, .int i_p0_tape_value]))] sz) := by
  refine Met.ofW (cc := cX11_end) (maxL := 3) (ret := (some .int)) (by decide) rfl ?_
  intro p e s m args below meth c s₁ B hml hv
  obtain ⟨rfl, hsz, hP, hK, hD0⟩ := hv
  have hx := B.exec
  have hb := B.bytes
  have hr := B.returns
  have hts := atoms_spec (ws := wsX11_end) B.pre
  have hown : s.vm.findClass RX11 = some m.cls := findClass_of_methodNamed B.named
  have hlocks := B.notSynchronized
  subst hsz
  have hD := hD0.self (sz := s.heap.size)
  generalize hAe : va_A [(a_p0, .inr (11, [.ref a_p0_rules, .ref a_p0_state, .ref a_p0_tape, .ref a_p0_reader, .ref a_p0_kitchen, .ref a_p0_luck, .ref a_p0_plans, .ref a_p0_coups, .ref a_p0_past, .ref a_p0_fairDays, .ref a_p0_images, .ref a_p0_imageHeld, .ref a_p0_sheets, .int i_p0_latestFault, .int i_p0_latestTear])), (a_p0_tape, .inr (9, [.ref a_p0_tape_bytes, .int i_p0_tape_length, .int i_p0_tape_at, .int i_p0_tape_token, .int i_p0_tape_start, .int i_p0_tape_value]))] s.heap.size = A at hD ⊢
  have hA : ∀ q : Nat, s.heap.size ≤ q → A q := fun q h => by rw [← hAe]; exact Or.inr h
  clear hAe hD0
  have hS : va_S A s.heap s.heap [] := va_S.rf
  have hl := lv_entry ([.ref a_p0, .int x1]) (n := 3) (Nat.le_of_ble_eq_true rfl)
  rw [lg_entry_eq]
  generalize (lg_sl ([.ref a_p0, .int x1]) ++ List.replicate (3 - (lg_sl ([.ref a_p0, .int x1])).length) Slot.unset).toArray = ls at hl ⊢
  have hl : lv_has ls 3 [(0, .ref a_p0), (1, .int x1)] := hl
  refine W_nameQ (fun Q hQ => ?_)
  obtain ⟨H, hH⟩ : ∃ H, H = s.heap := ⟨_, rfl⟩
  replace hS : va_S A s.heap H [] := by rw [hH]; exact hS
  replace hP : va_P D vwCl [(a_p0, .inr (11, [.ref a_p0_rules, .ref a_p0_state, .ref a_p0_tape, .ref a_p0_reader, .ref a_p0_kitchen, .ref a_p0_luck, .ref a_p0_plans, .ref a_p0_coups, .ref a_p0_past, .ref a_p0_fairDays, .ref a_p0_images, .ref a_p0_imageHeld, .ref a_p0_sheets, .int i_p0_latestFault, .int i_p0_latestTear])), (a_p0_tape, .inr (9, [.ref a_p0_tape_bytes, .int i_p0_tape_length, .int i_p0_tape_at, .int i_p0_tape_token, .int i_p0_tape_start, .int i_p0_tape_value]))] H := by rw [hH]; exact hP
  rw [← hH]
  clear hH
  unfold f_X11_end at hf
  refine lv_iload_n hx hb dX11_end_0 rfl (lv_at hl 1 rfl) ?_
  refine lv_if_lt (tgt := 15) hx hb dX11_end_1 (by decide) (fun cc => ?_) (fun cc => ?_)
  ·
    replace hf := ite_t cc hf
    clear cc
    refine lv_iconst (v := (-1 : Int32)) hx hb dX11_end_15 (by decide) ?_
    obtain ⟨rfl, rfl⟩ := ou2 hf
    rw [hQ]
    exact W.iret hx hb hr (fun t ht hW => ⟨⟨_, (), rfl, rfl, by rw [ht]; exact hP, va_K.moved hW.alike hK, hD⟩, hS.F ht⟩) hS.2.2 dX11_end_16
  ·
    replace hf := ite_f cc hf
    clear cc
    refine lv_iload_n hx hb dX11_end_4 rfl (lv_at hl 1 rfl) ?_
    refine lv_aload_n hx hb dX11_end_5 rfl (lv_at hl 0 rfl) ?_
    refine va_get (D := D) (ci := 11) (v := .ref a_p0_tape) (C := RX11) (T := TX11) (N := 15) hx hb hts inX11_end_X11 hown hK hP 0 rfl rfl 2 (by decide) (hts _ mwX11_end_1) (fun _ h9 => h9) rfl dX11_end_6 ?_
    refine va_get (D := D) (ci := 9) (v := .int i_p0_tape_length) (C := RX9) (T := TX9) (N := 6) hx hb hts inX11_end_X9 hown hK hP 1 rfl rfl 1 (by decide) (hts _ mwX11_end_3) (fun _ h9 => h9) rfl dX11_end_9 ?_
    refine lv_icmp_le (tgt := 17) hx hb dX11_end_12 (by decide) (fun cc => ?_) (fun cc => ?_)
    ·
      replace hf := ite_t cc hf
      clear cc
      refine lv_aload_n hx hb dX11_end_17 rfl (lv_at hl 0 rfl) ?_
      refine va_get (D := D) (ci := 11) (v := .ref a_p0_tape) (C := RX11) (T := TX11) (N := 15) hx hb hts inX11_end_X11 hown hK hP 0 rfl rfl 2 (by decide) (hts _ mwX11_end_1) (fun _ h9 => h9) rfl dX11_end_18 ?_
      refine va_get (D := D) (ci := 9) (v := .int i_p0_tape_length) (C := RX9) (T := TX9) (N := 6) hx hb hts inX11_end_X9 hown hK hP 1 rfl rfl 1 (by decide) (hts _ mwX11_end_3) (fun _ h9 => h9) rfl dX11_end_21 ?_
      refine lv_topi (fun z1 ez => ?_)
      replace hf := bnd_s hf ez
      clear ez
      refine lv_istore_n (lv' := [(2, .int z1), (0, .ref a_p0), (1, .int x1)]) hx hb dX11_end_24 rfl hl (by decide) rfl (fun ls hl => ?_)
      refine lv_aload_n hx hb dX11_end_25 rfl (lv_at hl 1 rfl) ?_
      refine va_get (D := D) (ci := 11) (v := .ref a_p0_tape) (C := RX11) (T := TX11) (N := 15) hx hb hts inX11_end_X11 hown hK hP 0 rfl rfl 2 (by decide) (hts _ mwX11_end_1) (fun _ h9 => h9) rfl dX11_end_26 ?_
      refine lv_iload_n hx hb dX11_end_29 rfl (lv_at hl 2 rfl) ?_
      refine lv_topi (fun z2 ez => ?_)
      replace hf := bnd_s hf ez
      clear ez
      refine va_put (D := D) (ci := 9) (v := .int z2) (ty := .int) (C := RX9) (T := TX9) (N := 6) hx hb hts inX11_end_X9 tyX9 tyX9_ok nmX9 hown hK hP hD hS 1 rfl rfl 1 (by decide) (hts _ mwX11_end_3) (fun _ h9 => h9) rfl (by decide +kernel) rfl rfl (Nat.le_of_ble_eq_true rfl) dX11_end_30 (fun H locs hP hD hS => ?_)
      have hP : va_P D vwCl [(a_p0, .inr (11, [.ref a_p0_rules, .ref a_p0_state, .ref a_p0_tape, .ref a_p0_reader, .ref a_p0_kitchen, .ref a_p0_luck, .ref a_p0_plans, .ref a_p0_coups, .ref a_p0_past, .ref a_p0_fairDays, .ref a_p0_images, .ref a_p0_imageHeld, .ref a_p0_sheets, .int i_p0_latestFault, .int i_p0_latestTear])), (a_p0_tape, .inr (9, [.ref a_p0_tape_bytes, .int z2, .int i_p0_tape_at, .int i_p0_tape_token, .int i_p0_tape_start, .int i_p0_tape_value]))] H := hP
      have hD : va_D A [(a_p0, .inr (11, [.ref a_p0_rules, .ref a_p0_state, .ref a_p0_tape, .ref a_p0_reader, .ref a_p0_kitchen, .ref a_p0_luck, .ref a_p0_plans, .ref a_p0_coups, .ref a_p0_past, .ref a_p0_fairDays, .ref a_p0_images, .ref a_p0_imageHeld, .ref a_p0_sheets, .int i_p0_latestFault, .int i_p0_latestTear])), (a_p0_tape, .inr (9, [.ref a_p0_tape_bytes, .int z2, .int i_p0_tape_at, .int i_p0_tape_token, .int i_p0_tape_start, .int i_p0_tape_value]))] := hD
      refine lv_iload_n hx hb dX11_end_33 rfl (lv_at hl 0 rfl) ?_
      obtain ⟨rfl, rfl⟩ := ou2 hf
      rw [hQ]
      exact W.iret hx hb hr (fun t ht hW => ⟨⟨_, (), rfl, rfl, by rw [ht]; exact hP, va_K.moved hW.alike hK, hD⟩, hS.F ht⟩) hS.2.2 dX11_end_34
    ·
      replace hf := ite_f cc hf
      clear cc
      refine lv_iconst (v := (-1 : Int32)) hx hb dX11_end_15 (by decide) ?_
      obtain ⟨rfl, rfl⟩ := ou2 hf
      rw [hQ]
      exact W.iret hx hb hr (fun t ht hW => ⟨⟨_, (), rfl, rfl, by rw [ht]; exact hP, va_K.moved hW.alike hK, hD⟩, hS.F ht⟩) hS.2.2 dX11_end_16

noncomputable def B_X11_text_64 (z21 : Int32) (z23 : Int32) (z24 : Int32) (z25 : Int32) (w26 : (Nat → Int32)) (w27 : (Nat → Int32)) (z28 : Int32) (z29 : Int32) (z30 : Int32) (z31 : Int32) (w32 : (Nat → Int32)) (w33 : (Nat → Int32)) (w34 : (Nat → Int32)) (w35 : (Nat → Int32)) (w36 : (Nat → Int32)) (z22 : Int32) (z7 : Int32) (z8 : Int32) (z9 : Int32) (z2 : Int32) (z3 : Int32) (z4 : Int32) (z5 : Int32) (z6 : Int32) (z10 : Int32) (z11 : Int32) (w12 : (Nat → Int32)) (z13 : Int32) (z14 : Int32) (z15 : Int32) (z16 : Int32) (w17 : (Nat → Int32)) (w18 : (Nat → Int32)) (w19 : (Nat → Int32)) (w20 : (Nat → Int32)) (again64 : Int32 → (Nat → Int32) → Option (Int32 × Int32 × Int32 × Int32 × (Nat → Int32) × (Nat → Int32) × Int32 × Int32 × Int32 × Int32 × (Nat → Int32) × (Nat → Int32) × (Nat → Int32) × (Nat → Int32) × (Nat → Int32) × Int32 × Int32 × Int32 × Int32 × Int32 × Int32 × Int32 × Int32 × Int32 × Int32 × Int32 × (Nat → Int32) × Int32 × Int32 × Int32 × Int32 × (Nat → Int32) × (Nat → Int32) × (Nat → Int32) × (Nat → Int32) × (Nat → Int32))) (z38 : Int32) (w39 : (Nat → Int32)) : Option (Int32 × Int32 × Int32 × Int32 × (Nat → Int32) × (Nat → Int32) × Int32 × Int32 × Int32 × Int32 × (Nat → Int32) × (Nat → Int32) × (Nat → Int32) × (Nat → Int32) × (Nat → Int32) × Int32 × Int32 × Int32 × Int32 × Int32 × Int32 × Int32 × Int32 × Int32 × Int32 × Int32 × (Nat → Int32) × Int32 × Int32 × Int32 × Int32 × (Nat → Int32) × (Nat → Int32) × (Nat → Int32) × (Nat → Int32) × (Nat → Int32)) := (if (2 : Int32) ≤ z38 then (some (z21, z23, z24, z25, w26, w27, z28, z29, z30, z31, w32, w33, w34, w35, w36, z22, z7, z8, z9, z2, z3, z4, z5, z6, z10, z11, w12, z13, z14, z15, z16, w17, w18, w19, w20, w39)) else (ck (ixB z38 2) (bnd (upd w39 (z38).toNatClampNeg (vp_nar .boolean (0 : Int32))) (fun (w41 : (Nat → Int32)) => (bnd (z38 + (1 : Int32)) (fun (z42 : Int32) => (again64 z42 w41)))))))
noncomputable def f_X11_text (i_p0_rules_seats : Int32) (i_p0_rules_stirs : Int32) (v_p0_rules_need : (Nat → Int32)) (v_p0_rules_after : (Nat → Int32)) (i_p0_state_seenDays : Int32) (i_p0_state_bone : Int32) (i_p0_state_king : Int32) (i_p0_state_days : Int32) (v_p0_state_pieces : (Nat → Int32)) (v_p0_state_friends : (Nat → Int32)) (v_p0_state_spoons : (Nat → Int32)) (v_p0_state_eaten : (Nat → Int32)) (v_p0_state_seen : (Nat → Int32)) (i_p0_tape_length : Int32) (i_p0_tape_token : Int32) (i_p0_tape_start : Int32) (v_p0_tape_bytes : (Nat → Int32)) (i_p0_reader_faultPlace : Int32) (v_p0_reader_rules_need : (Nat → Int32)) (v_p0_reader_rules_after : (Nat → Int32)) (v_p0_reader_state_pieces : (Nat → Int32)) (v_p0_reader_state_friends : (Nat → Int32)) (v_p0_reader_state_spoons : (Nat → Int32)) (v_p0_reader_state_eaten : (Nat → Int32)) (v_p0_reader_state_seen : (Nat → Int32)) (v_p0_imageHeld : (Nat → Int32)) : Option (Int32 × Int32 × Int32 × Int32 × (Nat → Int32) × (Nat → Int32) × Int32 × Int32 × Int32 × Int32 × (Nat → Int32) × (Nat → Int32) × (Nat → Int32) × (Nat → Int32) × (Nat → Int32) × Int32 × Int32 × Int32 × Int32 × Int32 × Int32 × Int32 × Int32 × Int32 × Int32 × Int32 × (Nat → Int32) × Int32 × Int32 × Int32 × Int32 × (Nat → Int32) × (Nat → Int32) × (Nat → Int32) × (Nat → Int32) × (Nat → Int32)) := (bd20 (f_X10_readTape i_p0_reader_faultPlace i_p0_tape_length i_p0_tape_token i_p0_tape_start v_p0_tape_bytes v_p0_reader_rules_need v_p0_reader_state_pieces v_p0_reader_state_friends v_p0_reader_state_spoons v_p0_reader_state_eaten) (fun (z1 : Int32) (z2 : Int32) (z3 : Int32) (z4 : Int32) (z5 : Int32) (z6 : Int32) (z7 : Int32) (z8 : Int32) (z9 : Int32) (z10 : Int32) (z11 : Int32) (w12 : (Nat → Int32)) (z13 : Int32) (z14 : Int32) (z15 : Int32) (z16 : Int32) (w17 : (Nat → Int32)) (w18 : (Nat → Int32)) (w19 : (Nat → Int32)) (w20 : (Nat → Int32)) => (bnd z1 (fun (z21 : Int32) => (bnd (0 : Int32) (fun (z22 : Int32) => (bnd z2 (fun (z23 : Int32) => (if z23 = 0 then (bd4 (f_X6_copy v_p0_rules_need v_p0_rules_after z10 z11 w12 v_p0_reader_rules_after) (fun (z24 : Int32) (z25 : Int32) (w26 : (Nat → Int32)) (w27 : (Nat → Int32)) => (bd9 (f_X8_copy v_p0_state_pieces v_p0_state_friends v_p0_state_spoons v_p0_state_eaten v_p0_state_seen z13 z14 z15 z16 w17 w18 w19 w20 v_p0_reader_state_seen) (fun (z28 : Int32) (z29 : Int32) (z30 : Int32) (z31 : Int32) (w32 : (Nat → Int32)) (w33 : (Nat → Int32)) (w34 : (Nat → Int32)) (w35 : (Nat → Int32)) (w36 : (Nat → Int32)) => (bnd (0 : Int32) (fun (z37 : Int32) => (lq2 (B_X11_text_64 z21 z23 z24 z25 w26 w27 z28 z29 z30 z31 w32 w33 w34 w35 w36 z22 z7 z8 z9 z2 z3 z4 z5 z6 z10 z11 w12 z13 z14 z15 z16 w17 w18 w19 w20) 1000 z37 v_p0_imageHeld))))))) else (some (z21, z23, i_p0_rules_seats, i_p0_rules_stirs, v_p0_rules_need, v_p0_rules_after, i_p0_state_seenDays, i_p0_state_bone, i_p0_state_king, i_p0_state_days, v_p0_state_pieces, v_p0_state_friends, v_p0_state_spoons, v_p0_state_eaten, v_p0_state_seen, z22, z7, z8, z9, z2, z3, z4, z5, z6, z10, z11, w12, z13, z14, z15, z16, w17, w18, w19, w20, v_p0_imageHeld)))))))))))
abbrev rm_X11_text : Room := { frames := 4, cells := 0, slots := 0, locals := 85 }
theorem inX11_text_X11 : ∀ w ∈ wsX110, w ∈ wsX11_text := by decide +kernel
theorem mwX11_text_1 : Cond.fieldLink RX11 35 "LadleKings" "reader" "LLadleKings$TextReader;" ∈ wsX11_text := by decide +kernel
theorem mwX11_text_2 : Cond.fieldLink RX11 26 "LadleKings" "tape" "LLadleKings$Tape;" ∈ wsX11_text := by decide +kernel
theorem inX11_text_X9 : ∀ w ∈ wsX90, w ∈ wsX11_text := by decide +kernel
theorem mwX11_text_4 : Cond.fieldLink RX11 111 "LadleKings$Tape" "length" "I" ∈ wsX11_text := by decide +kernel
theorem inX11_text_X10 : ∀ w ∈ wsX100, w ∈ wsX11_text := by decide +kernel
theorem mwX11_text_6 : Cond.fieldLink RX11 118 "LadleKings$TextReader" "faultFound" "I" ∈ wsX11_text := by decide +kernel
theorem mwX11_text_7 : Cond.fieldLink RX11 99 "LadleKings" "latestFault" "I" ∈ wsX11_text := by decide +kernel
theorem mwX11_text_8 : Cond.fieldLink RX11 10 "LadleKings" "rules" "LLadleKings$Rules;" ∈ wsX11_text := by decide +kernel
theorem mwX11_text_9 : Cond.fieldLink RX11 121 "LadleKings$TextReader" "rules" "LLadleKings$Rules;" ∈ wsX11_text := by decide +kernel
theorem mwX11_text_10 : Cond.fieldLink RX11 19 "LadleKings" "state" "LLadleKings$State;" ∈ wsX11_text := by decide +kernel
theorem mwX11_text_11 : Cond.fieldLink RX11 126 "LadleKings$TextReader" "state" "LLadleKings$State;" ∈ wsX11_text := by decide +kernel
theorem mwX11_text_12 : Cond.fieldLink RX11 89 "LadleKings" "imageHeld" "[Z" ∈ wsX11_text := by decide +kernel
set_option maxHeartbeats 8000000 in
set_option maxRecDepth 100000 in
theorem c_X11_text (l : Launch) (D : va_G) (G : Nat → ClassId) (sz : Nat) (a_p0 : Nat) (a_p0_rules : Nat) (a_p0_state : Nat) (a_p0_tape : Nat) (a_p0_reader : Nat) (a_p0_kitchen : Nat) (a_p0_luck : Nat) (a_p0_plans : Nat) (a_p0_coups : Nat) (a_p0_past : Nat) (a_p0_fairDays : Nat) (a_p0_images : Nat) (a_p0_imageHeld : Nat) (a_p0_sheets : Nat) (a_p0_rules_need : Nat) (a_p0_rules_kind : Nat) (a_p0_rules_first : Nat) (a_p0_rules_second : Nat) (a_p0_rules_after : Nat) (a_p0_state_pieces : Nat) (a_p0_state_friends : Nat) (a_p0_state_spoons : Nat) (a_p0_state_eaten : Nat) (a_p0_state_seen : Nat) (a_p0_tape_bytes : Nat) (a_p0_reader_rules : Nat) (a_p0_reader_state : Nat) (a_p0_reader_numbers : Nat) (a_p0_reader_rules_need : Nat) (a_p0_reader_rules_kind : Nat) (a_p0_reader_rules_first : Nat) (a_p0_reader_rules_second : Nat) (a_p0_reader_rules_after : Nat) (a_p0_reader_state_pieces : Nat) (a_p0_reader_state_friends : Nat) (a_p0_reader_state_spoons : Nat) (a_p0_reader_state_eaten : Nat) (a_p0_reader_state_seen : Nat) (i_p0_latestFault : Int32) (i_p0_latestTear : Int32) (i_p0_rules_seats : Int32) (i_p0_rules_stirs : Int32) (v_p0_rules_need : (Nat → Int32)) (v_p0_rules_after : (Nat → Int32)) (i_p0_state_seenDays : Int32) (i_p0_state_bone : Int32) (i_p0_state_king : Int32) (i_p0_state_days : Int32) (v_p0_state_pieces : (Nat → Int32)) (v_p0_state_friends : (Nat → Int32)) (v_p0_state_spoons : (Nat → Int32)) (v_p0_state_eaten : (Nat → Int32)) (v_p0_state_seen : (Nat → Int32)) (i_p0_tape_length : Int32) (i_p0_tape_at : Int32) (i_p0_tape_token : Int32) (i_p0_tape_start : Int32) (i_p0_tape_value : Int32) (v_p0_tape_bytes : (Nat → Int32)) (i_p0_reader_faultFound : Int32) (i_p0_reader_faultPlace : Int32) (i_p0_reader_lines : Int32) (i_p0_reader_met : Int32) (i_p0_reader_greatest : Int32) (i_p0_reader_rules_seats : Int32) (i_p0_reader_rules_stirs : Int32) (v_p0_reader_rules_need : (Nat → Int32)) (v_p0_reader_rules_after : (Nat → Int32)) (i_p0_reader_state_seenDays : Int32) (i_p0_reader_state_bone : Int32) (i_p0_reader_state_king : Int32) (i_p0_reader_state_days : Int32) (v_p0_reader_state_pieces : (Nat → Int32)) (v_p0_reader_state_friends : (Nat → Int32)) (v_p0_reader_state_spoons : (Nat → Int32)) (v_p0_reader_state_eaten : (Nat → Int32)) (v_p0_reader_state_seen : (Nat → Int32)) (v_p0_imageHeld : (Nat → Int32)) (r : Int32) (o_i_p0_latestFault : Int32) (o_i_p0_rules_seats : Int32) (o_i_p0_rules_stirs : Int32) (o_v_p0_rules_need : (Nat → Int32)) (o_v_p0_rules_after : (Nat → Int32)) (o_i_p0_state_seenDays : Int32) (o_i_p0_state_bone : Int32) (o_i_p0_state_king : Int32) (o_i_p0_state_days : Int32) (o_v_p0_state_pieces : (Nat → Int32)) (o_v_p0_state_friends : (Nat → Int32)) (o_v_p0_state_spoons : (Nat → Int32)) (o_v_p0_state_eaten : (Nat → Int32)) (o_v_p0_state_seen : (Nat → Int32)) (o_i_p0_tape_length : Int32) (o_i_p0_tape_at : Int32) (o_i_p0_tape_token : Int32) (o_i_p0_tape_start : Int32) (o_i_p0_reader_faultFound : Int32) (o_i_p0_reader_faultPlace : Int32) (o_i_p0_reader_lines : Int32) (o_i_p0_reader_met : Int32) (o_i_p0_reader_greatest : Int32) (o_i_p0_reader_rules_seats : Int32) (o_i_p0_reader_rules_stirs : Int32) (o_v_p0_reader_rules_need : (Nat → Int32)) (o_i_p0_reader_state_seenDays : Int32) (o_i_p0_reader_state_bone : Int32) (o_i_p0_reader_state_king : Int32) (o_i_p0_reader_state_days : Int32) (o_v_p0_reader_state_pieces : (Nat → Int32)) (o_v_p0_reader_state_friends : (Nat → Int32)) (o_v_p0_reader_state_spoons : (Nat → Int32)) (o_v_p0_reader_state_eaten : (Nat → Int32)) (o_v_p0_imageHeld : (Nat → Int32)) (hf : f_X11_text i_p0_rules_seats i_p0_rules_stirs v_p0_rules_need v_p0_rules_after i_p0_state_seenDays i_p0_state_bone i_p0_state_king i_p0_state_days v_p0_state_pieces v_p0_state_friends v_p0_state_spoons v_p0_state_eaten v_p0_state_seen i_p0_tape_length i_p0_tape_token i_p0_tape_start v_p0_tape_bytes i_p0_reader_faultPlace v_p0_reader_rules_need v_p0_reader_rules_after v_p0_reader_state_pieces v_p0_reader_state_friends v_p0_reader_state_spoons v_p0_reader_state_eaten v_p0_reader_state_seen v_p0_imageHeld = some (r, o_i_p0_latestFault, o_i_p0_rules_seats, o_i_p0_rules_stirs, o_v_p0_rules_need, o_v_p0_rules_after, o_i_p0_state_seenDays, o_i_p0_state_bone, o_i_p0_state_king, o_i_p0_state_days, o_v_p0_state_pieces, o_v_p0_state_friends, o_v_p0_state_spoons, o_v_p0_state_eaten, o_v_p0_state_seen, o_i_p0_tape_length, o_i_p0_tape_at, o_i_p0_tape_token, o_i_p0_tape_start, o_i_p0_reader_faultFound, o_i_p0_reader_faultPlace, o_i_p0_reader_lines, o_i_p0_reader_met, o_i_p0_reader_greatest, o_i_p0_reader_rules_seats, o_i_p0_reader_rules_stirs, o_v_p0_reader_rules_need, o_i_p0_reader_state_seenDays, o_i_p0_reader_state_bone, o_i_p0_reader_state_king, o_i_p0_reader_state_days, o_v_p0_reader_state_pieces, o_v_p0_reader_state_friends, o_v_p0_reader_state_spoons, o_v_p0_reader_state_eaten, o_v_p0_imageHeld)) : Met l yX11_text wsX11_text rm_X11_text (pcG D G [.ref a_p0] sz [(a_p0, .inr (11, [.ref a_p0_rules, .ref a_p0_state, .ref a_p0_tape, .ref a_p0_reader, .ref a_p0_kitchen, .ref a_p0_luck, .ref a_p0_plans, .ref a_p0_coups, .ref a_p0_past, .ref a_p0_fairDays, .ref a_p0_images, .ref a_p0_imageHeld, .ref a_p0_sheets, .int i_p0_latestFault, .int i_p0_latestTear])), (a_p0_rules, .inr (6, [.int i_p0_rules_seats, .int i_p0_rules_stirs, .ref a_p0_rules_need, .ref a_p0_rules_kind, .ref a_p0_rules_first, .ref a_p0_rules_second, .ref a_p0_rules_after])), (a_p0_rules_need, .inl (G 1, 7, .inl v_p0_rules_need)), (a_p0_rules_after, .inl (G 1, 35, .inl v_p0_rules_after)), (a_p0_state, .inr (8, [.ref a_p0_state_pieces, .ref a_p0_state_friends, .ref a_p0_state_spoons, .ref a_p0_state_eaten, .ref a_p0_state_seen, .int i_p0_state_seenDays, .int i_p0_state_bone, .int i_p0_state_king, .int i_p0_state_days])), (a_p0_state_pieces, .inl (G 1, 7, .inl v_p0_state_pieces)), (a_p0_state_friends, .inl (G 1, 7, .inl v_p0_state_friends)), (a_p0_state_spoons, .inl (G 1, 7, .inl v_p0_state_spoons)), (a_p0_state_eaten, .inl (G 1, 7, .inl v_p0_state_eaten)), (a_p0_state_seen, .inl (G 1, 6, .inl v_p0_state_seen)), (a_p0_tape, .inr (9, [.ref a_p0_tape_bytes, .int i_p0_tape_length, .int i_p0_tape_at, .int i_p0_tape_token, .int i_p0_tape_start, .int i_p0_tape_value])), (a_p0_tape_bytes, .inl (G 0, 320, .inl v_p0_tape_bytes)), (a_p0_reader, .inr (10, [.ref a_p0_tape, .ref a_p0_reader_rules, .ref a_p0_reader_state, .int i_p0_reader_faultFound, .int i_p0_reader_faultPlace, .int i_p0_reader_lines, .int i_p0_reader_met, .int i_p0_reader_greatest, .ref a_p0_reader_numbers])), (a_p0_reader_rules, .inr (6, [.int i_p0_reader_rules_seats, .int i_p0_reader_rules_stirs, .ref a_p0_reader_rules_need, .ref a_p0_reader_rules_kind, .ref a_p0_reader_rules_first, .ref a_p0_reader_rules_second, .ref a_p0_reader_rules_after])), (a_p0_reader_rules_need, .inl (G 1, 7, .inl v_p0_reader_rules_need)), (a_p0_reader_rules_after, .inl (G 1, 35, .inl v_p0_reader_rules_after)), (a_p0_reader_state, .inr (8, [.ref a_p0_reader_state_pieces, .ref a_p0_reader_state_friends, .ref a_p0_reader_state_spoons, .ref a_p0_reader_state_eaten, .ref a_p0_reader_state_seen, .int i_p0_reader_state_seenDays, .int i_p0_reader_state_bone, .int i_p0_reader_state_king, .int i_p0_reader_state_days])), (a_p0_reader_state_pieces, .inl (G 1, 7, .inl v_p0_reader_state_pieces)), (a_p0_reader_state_friends, .inl (G 1, 7, .inl v_p0_reader_state_friends)), (a_p0_reader_state_spoons, .inl (G 1, 7, .inl v_p0_reader_state_spoons)), (a_p0_reader_state_eaten, .inl (G 1, 7, .inl v_p0_reader_state_eaten)), (a_p0_reader_state_seen, .inl (G 1, 6, .inl v_p0_reader_state_seen)), (a_p0_imageHeld, .inl (G 3, 2, .inl v_p0_imageHeld))]) (qcI D G r [(a_p0, .inr (11, [.ref a_p0_rules, .ref a_p0_state, .ref a_p0_tape, .ref a_p0_reader, .ref a_p0_kitchen, .ref a_p0_luck, .ref a_p0_plans, .ref a_p0_coups, .ref a_p0_past, .ref a_p0_fairDays, .ref a_p0_images, .ref a_p0_imageHeld, .ref a_p0_sheets, .int o_i_p0_latestFault, .int i_p0_latestTear])), (a_p0_rules, .inr (6, [.int o_i_p0_rules_seats, .int o_i_p0_rules_stirs, .ref a_p0_rules_need, .ref a_p0_rules_kind, .ref a_p0_rules_first, .ref a_p0_rules_second, .ref a_p0_rules_after])), (a_p0_rules_need, .inl (G 1, 7, .inl o_v_p0_rules_need)), (a_p0_rules_after, .inl (G 1, 35, .inl o_v_p0_rules_after)), (a_p0_state, .inr (8, [.ref a_p0_state_pieces, .ref a_p0_state_friends, .ref a_p0_state_spoons, .ref a_p0_state_eaten, .ref a_p0_state_seen, .int o_i_p0_state_seenDays, .int o_i_p0_state_bone, .int o_i_p0_state_king, .int o_i_p0_state_days])), (a_p0_state_pieces, .inl (G 1, 7, .inl o_v_p0_state_pieces)), (a_p0_state_friends, .inl (G 1, 7, .inl o_v_p0_state_friends)), (a_p0_state_spoons, .inl (G 1, 7, .inl o_v_p0_state_spoons)), (a_p0_state_eaten, .inl (G 1, 7, .inl o_v_p0_state_eaten)), (a_p0_state_seen, .inl (G 1, 6, .inl o_v_p0_state_seen)), (a_p0_tape, .inr (9, [.ref a_p0_tape_bytes, .int o_i_p0_tape_length, .int o_i_p0_tape_at, .int o_i_p0_tape_token, .int o_i_p0_tape_start, .int i_p0_tape_value])), (a_p0_tape_bytes, .inl (G 0, 320, .inl v_p0_tape_bytes)), (a_p0_reader, .inr (10, [.ref a_p0_tape, .ref a_p0_reader_rules, .ref a_p0_reader_state, .int o_i_p0_reader_faultFound, .int o_i_p0_reader_faultPlace, .int o_i_p0_reader_lines, .int o_i_p0_reader_met, .int o_i_p0_reader_greatest, .ref a_p0_reader_numbers])), (a_p0_reader_rules, .inr (6, [.int o_i_p0_reader_rules_seats, .int o_i_p0_reader_rules_stirs, .ref a_p0_reader_rules_need, .ref a_p0_reader_rules_kind, .ref a_p0_reader_rules_first, .ref a_p0_reader_rules_second, .ref a_p0_reader_rules_after])), (a_p0_reader_rules_need, .inl (G 1, 7, .inl o_v_p0_reader_rules_need)), (a_p0_reader_rules_after, .inl (G 1, 35, .inl v_p0_reader_rules_after)), (a_p0_reader_state, .inr (8, [.ref a_p0_reader_state_pieces, .ref a_p0_reader_state_friends, .ref a_p0_reader_state_spoons, .ref a_p0_reader_state_eaten, .ref a_p0_reader_state_seen, .int o_i_p0_reader_state_seenDays, .int o_i_p0_reader_state_bone, .int o_i_p0_reader_state_king, .int o_i_p0_reader_state_days])), (a_p0_reader_state_pieces, .inl (G 1, 7, .inl o_v_p0_reader_state_pieces)), (a_p0_reader_state_friends, .inl (G 1, 7, .inl o_v_p0_reader_state_friends)), (a_p0_reader_state_spoons, .inl (G 1, 7, .inl o_v_p0_reader_state_spoons)), (a_p0_reader_state_eaten, .inl (G 1, 7, .inl o_v_p0_reader_state_eaten)), (a_p0_reader_state_seen, .inl (G 1, 6, .inl v_p0_reader_state_seen)), (a_p0_imageHeld, .inl (G 3, 2, .inl o_v_p0_imageHeld))] (va_A [(a_p0, .inr (11, [.ref a_p0_rules, .ref a_p0_state, .ref a_p0_tape, .ref a_p0_reader, .ref a_p0_kitchen, .ref a_p0_luck, .ref a_p0_plans, .ref a_p0_coups, .ref a_p0_past, .ref a_p0_fairDays, .ref a_p0_images, .ref a_p0_imageHeld, .ref a_p0_sheets, .int i_p0_latestFault, .int i_p0_latestTear])), (a_p0_rules, .inr (6, [.int i_p0_rules_seats, .int i_p0_rules_stirs, .ref a_p0_rules_need, .ref a_p0_rules_kind, .ref a_p0_rules_first, .ref a_p0_rules_second, .ref a_p0_rules_after])), (a_p0_rules_need, .inl (G 1, 7, .inl v_p0_rules_need)), (a_p0_rules_after, .inl (G 1, 35, .inl v_p0_rules_after)), (a_p0_state, .inr (8, [.ref a_p0_state_pieces, .ref a_p0_state_friends, .ref a_p0_state_spoons, .ref a_p0_state_eaten, .ref a_p0_state_seen, .int i_p0_state_seenDays, .int i_p0_state_bone, .int i_p0_state_king, .int i_p0_state_days])), (a_p0_state_pieces, .inl (G 1, 7, .inl v_p0_state_pieces)), (a_p0_state_friends, .inl (G 1, 7, .inl v_p0_state_friends)), (a_p0_state_spoons, .inl (G 1, 7, .inl v_p0_state_spoons)), (a_p0_state_eaten, .inl (G 1, 7, .inl v_p0_state_eaten)), (a_p0_state_seen, .inl (G 1, 6, .inl v_p0_state_seen)), (a_p0_tape, .inr (9, [.ref a_p0_tape_bytes, .int i_p0_tape_length, .int i_p0_tape_at, .int i_p0_tape_token, .int i_p0_tape_start, .int i_p0_tape_value])), (a_p0_tape_bytes, .inl (G 0, 320, .inl v_p0_tape_bytes)), (a_p0_reader, .inr (10, [.ref a_p0_tape, .ref a_p0_reader_rules, .ref a_p0_reader_state, .int i_p0_reader_faultFound, .int i_p0_reader_faultPlace, .int i_p0_reader_lines, .int i_p0_reader_met, .int i_p0_reader_greatest, .ref a_p0_reader_numbers])), (a_p0_reader_rules, .inr (6, [.int i_p0_reader_rules_seats, .int i_p0_reader_rules_stirs, .ref a_p0_reader_rules_need, .ref a_p0_reader_rules_kind, .ref a_p0_reader_rules_first, .ref a_p0_reader_rules_second, .ref a_p0_reader_rules_after])), (a_p0_reader_rules_need, .inl (G 1, 7, .inl v_p0_reader_rules_need)), (a_p0_reader_rules_after, .inl (G 1, 35, .inl v_p0_reader_rules_after)), (a_p0_reader_state, .inr (8, [.ref a_p0_reader_state_pieces, .ref a_p0_reader_state_friends, .ref a_p0_reader_state_spoons, .ref a_p0_reader_state_eaten, .ref a_p0_reader_state_seen, .int i_p0_reader_state_seenDays, .int i_p0_reader_state_bone, .int i_p0_reader_state_king, .int i_p0_reader_state_days])), (a_p0_reader_state_pieces, .inl (G 1, 7, .inl v_p0_reader_state_pieces)), (a_p0_reader_state_friends, .inl (G 1, 7, .inl v_p0_reader_state_friends)), (a_p0_reader_state_spoons, .inl (G 1, 7, .inl v_p0_reader_state_spoons)), (a_p0_reader_state_eaten, .inl (G 1, 7, .inl v_p0_reader_state_eaten)), (a_p0_reader_state_seen, .inl (G 1, 6, .inl v_p0_reader_state_seen)), (a_p0_imageHeld, .inl (G 3, 2, .inl v_p0_imageHeld))] sz)) 0 0 (va_A [(a_p0, .inr (11, [.ref a_p0_rules, .ref a_p0_state, .ref a_p0_tape, .ref a_p0_reader, .ref a_p0_kitchen, .ref a_p0_luck, .ref a_p0_plans, .ref a_p0_coups, .ref a_p0_past, .ref a_p0_fairDays, .ref a_p0_images, .ref a_p0_imageHeld, .ref a_p0_sheets, .int i_p0_latestFault, .int i_p0_latestTear])), (a_p0_rules, .inr (6, [.int i_p0_rules_seats, .int i_p0_rules_stirs, .ref a_p0_rules_need, .ref a_p0_rules_kind, .ref a_p0_rules_first, .ref a_p0_rules_second, .ref a_p0_rules_after])), (a_p0_rules_need, .inl (G 1, 7, .inl v_p0_rules_need)), (a_p0_rules_after, .inl (G 1, 35, .inl v_p0_rules_after)), (a_p0_state, .inr (8, [.ref a_p0_state_pieces, .ref a_p0_state_friends, .ref a_p0_state_spoons, .ref a_p0_state_eaten, .ref a_p0_state_seen, .int i_p0_state_seenDays, .int i_p0_state_bone, .int i_p0_state_king, .int i_p0_state_days])), (a_p0_state_pieces, .inl (G 1, 7, .inl v_p0_state_pieces)), (a_p0_state_friends, .inl (G 1, 7, .inl v_p0_state_friends)), (a_p0_state_spoons, .inl (G 1, 7, .inl v_p0_state_spoons)), (a_p0_state_eaten, .inl (G 1, 7, .inl v_p0_state_eaten)), (a_p0_state_seen, .inl (G 1, 6, .inl v_p0_state_seen)), (a_p0_tape, .inr (9, [.ref a_p0_tape_bytes, .int i_p0_tape_length, .int i_p0_tape_at, .int i_p0_tape_token, .int i_p0_tape_start, .int i_p0_tape_value])), (a_p0_tape_bytes, .inl (G 0, 320, .inl v_p0_tape_bytes)), (a_p0_reader, .inr (10, [.ref a_p0_tape, .ref a_p0_reader_rules, .ref a_p0_reader_state, .int i_p0_reader_faultFound, .int i_p0_reader_faultPlace, .int i_p0_reader_lines, .int i_p0_reader_met, .int i_p0_reader_greatest, .ref a_p0_reader_numbers])), (a_p0_reader_rules, .inr (6, [.int i_p0_reader_rules_seats, .int i_p0_reader_rules_stirs, .ref a_p0_reader_rules_need, .ref a_p0_reader_rules_kind, .ref a_p0_reader_rules_first, .ref a_p0_reader_rules_second, .ref a_p0_reader_rules_after])), (a_p0_reader_rules_need, .inl (G 1, 7, .inl v_p0_reader_rules_need)), (a_p0_reader_rules_after, .inl (G 1, 35, .inl v_p0_reader_rules_after)), (a_p0_reader_state, .inr (8, [.ref a_p0_reader_state_pieces, .ref a_p0_reader_state_friends, .ref a_p0_reader_state_spoons, .ref a_p0_reader_state_eaten, .ref a_p0_reader_state_seen, .int i_p0_reader_state_seenDays, .int i_p0_reader_state_bone, .int i_p0_reader_state_king, .int i_p0_reader_state_days])), (a_p0_reader_state_pieces, .inl (G 1, 7, .inl v_p0_reader_state_pieces)), (a_p0_reader_state_friends, .inl (G 1, 7, .inl v_p0_reader_state_friends)), (a_p0_reader_state_spoons, .inl (G 1, 7, .inl v_p0_reader_state_spoons)), (a_p0_reader_state_eaten, .inl (G 1, 7, .inl v_p0_reader_state_eaten)), (a_p0_reader_state_seen, .inl (G 1, 6, .inl v_p0_reader_state_seen)), (a_p0_imageHeld, .inl (G 3, 2, .inl v_p0_imageHeld))] sz) := by
  refine Met.ofW (cc := cX11_text) (maxL := 3) (ret := (some .int)) (by decide) rfl ?_
  intro p e s m args below meth c s₁ B hml hv
  obtain ⟨rfl, hsz, hP, hK, hD0⟩ := hv
  have hx := B.exec
  have hb := B.bytes
  have hr := B.returns
  have hts := atoms_spec (ws := wsX11_text) B.pre
  have hown : s.vm.findClass RX11 = some m.cls := findClass_of_methodNamed B.named
  have hlocks := B.notSynchronized
  subst hsz
  have hD := hD0.self (sz := s.heap.size)
  generalize hAe : va_A [(a_p0, .inr (11, [.ref a_p0_rules, .ref a_p0_state, .ref a_p0_tape, .ref a_p0_reader, .ref a_p0_kitchen, .ref a_p0_luck, .ref a_p0_plans, .ref a_p0_coups, .ref a_p0_past, .ref a_p0_fairDays, .ref a_p0_images, .ref a_p0_imageHeld, .ref a_p0_sheets, .int i_p0_latestFault, .int i_p0_latestTear])), (a_p0_rules, .inr (6, [.int i_p0_rules_seats, .int i_p0_rules_stirs, .ref a_p0_rules_need, .ref a_p0_rules_kind, .ref a_p0_rules_first, .ref a_p0_rules_second, .ref a_p0_rules_after])), (a_p0_rules_need, .inl (G 1, 7, .inl v_p0_rules_need)), (a_p0_rules_after, .inl (G 1, 35, .inl v_p0_rules_after)), (a_p0_state, .inr (8, [.ref a_p0_state_pieces, .ref a_p0_state_friends, .ref a_p0_state_spoons, .ref a_p0_state_eaten, .ref a_p0_state_seen, .int i_p0_state_seenDays, .int i_p0_state_bone, .int i_p0_state_king, .int i_p0_state_days])), (a_p0_state_pieces, .inl (G 1, 7, .inl v_p0_state_pieces)), (a_p0_state_friends, .inl (G 1, 7, .inl v_p0_state_friends)), (a_p0_state_spoons, .inl (G 1, 7, .inl v_p0_state_spoons)), (a_p0_state_eaten, .inl (G 1, 7, .inl v_p0_state_eaten)), (a_p0_state_seen, .inl (G 1, 6, .inl v_p0_state_seen)), (a_p0_tape, .inr (9, [.ref a_p0_tape_bytes, .int i_p0_tape_length, .int i_p0_tape_at, .int i_p0_tape_token, .int i_p0_tape_start, .int i_p0_tape_value])), (a_p0_tape_bytes, .inl (G 0, 320, .inl v_p0_tape_bytes)), (a_p0_reader, .inr (10, [.ref a_p0_tape, .ref a_p0_reader_rules, .ref a_p0_reader_state, .int i_p0_reader_faultFound, .int i_p0_reader_faultPlace, .int i_p0_reader_lines, .int i_p0_reader_met, .int i_p0_reader_greatest, .ref a_p0_reader_numbers])), (a_p0_reader_rules, .inr (6, [.int i_p0_reader_rules_seats, .int i_p0_reader_rules_stirs, .ref a_p0_reader_rules_need, .ref a_p0_reader_rules_kind, .ref a_p0_reader_rules_first, .ref a_p0_reader_rules_second, .ref a_p0_reader_rules_after])), (a_p0_reader_rules_need, .inl (G 1, 7, .inl v_p0_reader_rules_need)), (a_p0_reader_rules_after, .inl (G 1, 35, .inl v_p0_reader_rules_after)), (a_p0_reader_state, .inr (8, [.ref a_p0_reader_state_pieces, .ref a_p0_reader_state_friends, .ref a_p0_reader_state_spoons, .ref a_p0_reader_state_eaten, .ref a_p0_reader_state_seen, .int i_p0_reader_state_seenDays, .int i_p0_reader_state_bone, .int i_p0_reader_state_king, .int i_p0_reader_state_days])), (a_p0_reader_state_pieces, .inl (G 1, 7, .inl v_p0_reader_state_pieces)), (a_p0_reader_state_friends, .inl (G 1, 7, .inl v_p0_reader_state_friends)), (a_p0_reader_state_spoons, .inl (G 1, 7, .inl v_p0_reader_state_spoons)), (a_p0_reader_state_eaten, .inl (G 1, 7, .inl v_p0_reader_state_eaten)), (a_p0_reader_state_seen, .inl (G 1, 6, .inl v_p0_reader_state_seen)), (a_p0_imageHeld, .inl (G 3, 2, .inl v_p0_imageHeld))] s.heap.size = A at hD ⊢
  have hA : ∀ q : Nat, s.heap.size ≤ q → A q := fun q h => by rw [← hAe]; exact Or.inr h
  clear hAe hD0
  have hS : va_S A s.heap s.heap [] := va_S.rf
  have hl := lv_entry ([.ref a_p0]) (n := 3) (Nat.le_of_ble_eq_true rfl)
  rw [lg_entry_eq]
  generalize (lg_sl ([.ref a_p0]) ++ List.replicate (3 - (lg_sl ([.ref a_p0])).length) Slot.unset).toArray = ls at hl ⊢
  have hl : lv_has ls 3 [(0, .ref a_p0)] := hl
  refine W_nameQ (fun Q hQ => ?_)
  obtain ⟨H, hH⟩ : ∃ H, H = s.heap := ⟨_, rfl⟩
  replace hS : va_S A s.heap H [] := by rw [hH]; exact hS
  replace hP : va_P D vwCl [(a_p0, .inr (11, [.ref a_p0_rules, .ref a_p0_state, .ref a_p0_tape, .ref a_p0_reader, .ref a_p0_kitchen, .ref a_p0_luck, .ref a_p0_plans, .ref a_p0_coups, .ref a_p0_past, .ref a_p0_fairDays, .ref a_p0_images, .ref a_p0_imageHeld, .ref a_p0_sheets, .int i_p0_latestFault, .int i_p0_latestTear])), (a_p0_rules, .inr (6, [.int i_p0_rules_seats, .int i_p0_rules_stirs, .ref a_p0_rules_need, .ref a_p0_rules_kind, .ref a_p0_rules_first, .ref a_p0_rules_second, .ref a_p0_rules_after])), (a_p0_rules_need, .inl (G 1, 7, .inl v_p0_rules_need)), (a_p0_rules_after, .inl (G 1, 35, .inl v_p0_rules_after)), (a_p0_state, .inr (8, [.ref a_p0_state_pieces, .ref a_p0_state_friends, .ref a_p0_state_spoons, .ref a_p0_state_eaten, .ref a_p0_state_seen, .int i_p0_state_seenDays, .int i_p0_state_bone, .int i_p0_state_king, .int i_p0_state_days])), (a_p0_state_pieces, .inl (G 1, 7, .inl v_p0_state_pieces)), (a_p0_state_friends, .inl (G 1, 7, .inl v_p0_state_friends)), (a_p0_state_spoons, .inl (G 1, 7, .inl v_p0_state_spoons)), (a_p0_state_eaten, .inl (G 1, 7, .inl v_p0_state_eaten)), (a_p0_state_seen, .inl (G 1, 6, .inl v_p0_state_seen)), (a_p0_tape, .inr (9, [.ref a_p0_tape_bytes, .int i_p0_tape_length, .int i_p0_tape_at, .int i_p0_tape_token, .int i_p0_tape_start, .int i_p0_tape_value])), (a_p0_tape_bytes, .inl (G 0, 320, .inl v_p0_tape_bytes)), (a_p0_reader, .inr (10, [.ref a_p0_tape, .ref a_p0_reader_rules, .ref a_p0_reader_state, .int i_p0_reader_faultFound, .int i_p0_reader_faultPlace, .int i_p0_reader_lines, .int i_p0_reader_met, .int i_p0_reader_greatest, .ref a_p0_reader_numbers])), (a_p0_reader_rules, .inr (6, [.int i_p0_reader_rules_seats, .int i_p0_reader_rules_stirs, .ref a_p0_reader_rules_need, .ref a_p0_reader_rules_kind, .ref a_p0_reader_rules_first, .ref a_p0_reader_rules_second, .ref a_p0_reader_rules_after])), (a_p0_reader_rules_need, .inl (G 1, 7, .inl v_p0_reader_rules_need)), (a_p0_reader_rules_after, .inl (G 1, 35, .inl v_p0_reader_rules_after)), (a_p0_reader_state, .inr (8, [.ref a_p0_reader_state_pieces, .ref a_p0_reader_state_friends, .ref a_p0_reader_state_spoons, .ref a_p0_reader_state_eaten, .ref a_p0_reader_state_seen, .int i_p0_reader_state_seenDays, .int i_p0_reader_state_bone, .int i_p0_reader_state_king, .int i_p0_reader_state_days])), (a_p0_reader_state_pieces, .inl (G 1, 7, .inl v_p0_reader_state_pieces)), (a_p0_reader_state_friends, .inl (G 1, 7, .inl v_p0_reader_state_friends)), (a_p0_reader_state_spoons, .inl (G 1, 7, .inl v_p0_reader_state_spoons)), (a_p0_reader_state_eaten, .inl (G 1, 7, .inl v_p0_reader_state_eaten)), (a_p0_reader_state_seen, .inl (G 1, 6, .inl v_p0_reader_state_seen)), (a_p0_imageHeld, .inl (G 3, 2, .inl v_p0_imageHeld))] H := by rw [hH]; exact hP
  rw [← hH]
  clear hH
  unfold f_X11_text at hf
  refine lv_aload_n hx hb dX11_text_0 rfl (lv_at hl 0 rfl) ?_
  refine va_get (D := D) (ci := 11) (v := .ref a_p0_reader) (C := RX11) (T := TX11) (N := 15) hx hb hts inX11_text_X11 hown hK hP 0 rfl rfl 3 (by decide) (hts _ mwX11_text_1) (fun _ h9 => h9) rfl dX11_text_1 ?_
  have hq := bd20_s hf
  clear hf
  obtain ⟨z1, z2, z3, z4, z5, z6, z7, z8, z9, z10, z11, w12, z13, z14, z15, z16, w17, w18, w19, w20, hcall, hf⟩ := hq
  refine gcI (ws' := [(a_p0, .inr (11, [.ref a_p0_rules, .ref a_p0_state, .ref a_p0_tape, .ref a_p0_reader, .ref a_p0_kitchen, .ref a_p0_luck, .ref a_p0_plans, .ref a_p0_coups, .ref a_p0_past, .ref a_p0_fairDays, .ref a_p0_images, .ref a_p0_imageHeld, .ref a_p0_sheets, .int i_p0_latestFault, .int i_p0_latestTear])), (a_p0_rules, .inr (6, [.int i_p0_rules_seats, .int i_p0_rules_stirs, .ref a_p0_rules_need, .ref a_p0_rules_kind, .ref a_p0_rules_first, .ref a_p0_rules_second, .ref a_p0_rules_after])), (a_p0_rules_need, .inl (G 1, 7, .inl v_p0_rules_need)), (a_p0_rules_after, .inl (G 1, 35, .inl v_p0_rules_after)), (a_p0_state, .inr (8, [.ref a_p0_state_pieces, .ref a_p0_state_friends, .ref a_p0_state_spoons, .ref a_p0_state_eaten, .ref a_p0_state_seen, .int i_p0_state_seenDays, .int i_p0_state_bone, .int i_p0_state_king, .int i_p0_state_days])), (a_p0_state_pieces, .inl (G 1, 7, .inl v_p0_state_pieces)), (a_p0_state_friends, .inl (G 1, 7, .inl v_p0_state_friends)), (a_p0_state_spoons, .inl (G 1, 7, .inl v_p0_state_spoons)), (a_p0_state_eaten, .inl (G 1, 7, .inl v_p0_state_eaten)), (a_p0_state_seen, .inl (G 1, 6, .inl v_p0_state_seen)), (a_p0_tape, .inr (9, [.ref a_p0_tape_bytes, .int i_p0_tape_length, .int z7, .int z8, .int z9, .int i_p0_tape_value])), (a_p0_tape_bytes, .inl (G 0, 320, .inl v_p0_tape_bytes)), (a_p0_reader, .inr (10, [.ref a_p0_tape, .ref a_p0_reader_rules, .ref a_p0_reader_state, .int z2, .int z3, .int z4, .int z5, .int z6, .ref a_p0_reader_numbers])), (a_p0_reader_rules, .inr (6, [.int z10, .int z11, .ref a_p0_reader_rules_need, .ref a_p0_reader_rules_kind, .ref a_p0_reader_rules_first, .ref a_p0_reader_rules_second, .ref a_p0_reader_rules_after])), (a_p0_reader_rules_need, .inl (G 1, 7, .inl w12)), (a_p0_reader_rules_after, .inl (G 1, 35, .inl v_p0_reader_rules_after)), (a_p0_reader_state, .inr (8, [.ref a_p0_reader_state_pieces, .ref a_p0_reader_state_friends, .ref a_p0_reader_state_spoons, .ref a_p0_reader_state_eaten, .ref a_p0_reader_state_seen, .int z13, .int z14, .int z15, .int z16])), (a_p0_reader_state_pieces, .inl (G 1, 7, .inl w17)), (a_p0_reader_state_friends, .inl (G 1, 7, .inl w18)), (a_p0_reader_state_spoons, .inl (G 1, 7, .inl w19)), (a_p0_reader_state_eaten, .inl (G 1, 7, .inl w20)), (a_p0_reader_state_seen, .inl (G 1, 6, .inl v_p0_reader_state_seen)), (a_p0_imageHeld, .inl (G 3, 2, .inl v_p0_imageHeld))]) (va_runV (As := []) (rest := []) ⟨hx, hb, hml, hown, hts⟩ (c_X10_readTape (l := l) (D := D) (G := G) (sz := H.size) (a_p0 := a_p0_reader) (a_p0_tape := a_p0_tape) (a_p0_rules := a_p0_reader_rules) (a_p0_state := a_p0_reader_state) (a_p0_numbers := a_p0_reader_numbers) (a_p0_tape_bytes := a_p0_tape_bytes) (a_p0_rules_need := a_p0_reader_rules_need) (a_p0_rules_kind := a_p0_reader_rules_kind) (a_p0_rules_first := a_p0_reader_rules_first) (a_p0_rules_second := a_p0_reader_rules_second) (a_p0_rules_after := a_p0_reader_rules_after) (a_p0_state_pieces := a_p0_reader_state_pieces) (a_p0_state_friends := a_p0_reader_state_friends) (a_p0_state_spoons := a_p0_reader_state_spoons) (a_p0_state_eaten := a_p0_reader_state_eaten) (a_p0_state_seen := a_p0_reader_state_seen) (i_p0_faultFound := i_p0_reader_faultFound) (i_p0_faultPlace := i_p0_reader_faultPlace) (i_p0_lines := i_p0_reader_lines) (i_p0_met := i_p0_reader_met) (i_p0_greatest := i_p0_reader_greatest) (i_p0_tape_length := i_p0_tape_length) (i_p0_tape_at := i_p0_tape_at) (i_p0_tape_token := i_p0_tape_token) (i_p0_tape_start := i_p0_tape_start) (i_p0_tape_value := i_p0_tape_value) (v_p0_tape_bytes := v_p0_tape_bytes) (i_p0_rules_seats := i_p0_reader_rules_seats) (i_p0_rules_stirs := i_p0_reader_rules_stirs) (v_p0_rules_need := v_p0_reader_rules_need) (i_p0_state_seenDays := i_p0_reader_state_seenDays) (i_p0_state_bone := i_p0_reader_state_bone) (i_p0_state_king := i_p0_reader_state_king) (i_p0_state_days := i_p0_reader_state_days) (v_p0_state_pieces := v_p0_reader_state_pieces) (v_p0_state_friends := v_p0_reader_state_friends) (v_p0_state_spoons := v_p0_reader_state_spoons) (v_p0_state_eaten := v_p0_reader_state_eaten) (r := z1) (o_i_p0_faultFound := z2) (o_i_p0_faultPlace := z3) (o_i_p0_lines := z4) (o_i_p0_met := z5) (o_i_p0_greatest := z6) (o_i_p0_tape_at := z7) (o_i_p0_tape_token := z8) (o_i_p0_tape_start := z9) (o_i_p0_rules_seats := z10) (o_i_p0_rules_stirs := z11) (o_v_p0_rules_need := w12) (o_i_p0_state_seenDays := z13) (o_i_p0_state_bone := z14) (o_i_p0_state_king := z15) (o_i_p0_state_days := z16) (o_v_p0_state_pieces := w17) (o_v_p0_state_friends := w18) (o_v_p0_state_spoons := w19) (o_v_p0_state_eaten := w20) (hf := hcall)) (cwV 0 hts gX11_text_X10_readTape rfl rfl rfl (by decide +kernel) ⟨Nat.le_of_ble_eq_true rfl, Nat.le_of_ble_eq_true rfl⟩) (preG_V (ci := 10) (hP.sub [12, 10, 11, 13, 14, 16, 17, 18, 19, 20] rfl) (hD.sub [12, 10, 11, 13, 14, 16, 17, 18, 19, 20] rfl rfl) hK rfl rfl) rfl rfl hl.1 rfl (lv_room (Nat.le_of_ble_eq_true rfl)) dX11_text_4 ⟨Nat.le_of_ble_eq_true rfl, Nat.le_of_ble_eq_true rfl⟩) hP hD hS hA [12, 10, 11, 13, 14, 16, 17, 18, 19, 20] [0, 1, 2, 3, 4, 5, 6, 7, 8, 9, 15, 21, 22] [0, 1, 2, 3, 4, 5, 6, 7, 8, 9, 14, 15, 13, 16, 17, 10, 18, 19, 20, 21, 22, 11, 12] rfl rfl rfl (by decide) rfl rfl rfl (fun H locs hP hD hS => ?_)
  clear hcall
  refine lv_topi (fun z21 ez => ?_)
  replace hf := bnd_s hf ez
  clear ez
  refine lv_istore_n (lv' := [(1, .int z21), (0, .ref a_p0)]) hx hb dX11_text_7 rfl hl (by decide) rfl (fun ls hl => ?_)
  refine lv_aload_n hx hb dX11_text_8 rfl (lv_at hl 1 rfl) ?_
  refine va_get (D := D) (ci := 11) (v := .ref a_p0_tape) (C := RX11) (T := TX11) (N := 15) hx hb hts inX11_text_X11 hown hK hP 0 rfl rfl 2 (by decide) (hts _ mwX11_text_2) (fun _ h9 => h9) rfl dX11_text_9 ?_
  refine lv_iconst (v := (0 : Int32)) hx hb dX11_text_12 (by decide) ?_
  refine lv_topi (fun z22 ez => ?_)
  replace hf := bnd_s hf ez
  clear ez
  refine va_put (D := D) (ci := 9) (v := .int z22) (ty := .int) (C := RX9) (T := TX9) (N := 6) hx hb hts inX11_text_X9 tyX9 tyX9_ok nmX9 hown hK hP hD hS 10 rfl rfl 1 (by decide) (hts _ mwX11_text_4) (fun _ h9 => h9) rfl (by decide +kernel) rfl rfl (Nat.le_of_ble_eq_true rfl) dX11_text_13 (fun H locs hP hD hS => ?_)
  have hP : va_P D vwCl [(a_p0, .inr (11, [.ref a_p0_rules, .ref a_p0_state, .ref a_p0_tape, .ref a_p0_reader, .ref a_p0_kitchen, .ref a_p0_luck, .ref a_p0_plans, .ref a_p0_coups, .ref a_p0_past, .ref a_p0_fairDays, .ref a_p0_images, .ref a_p0_imageHeld, .ref a_p0_sheets, .int i_p0_latestFault, .int i_p0_latestTear])), (a_p0_rules, .inr (6, [.int i_p0_rules_seats, .int i_p0_rules_stirs, .ref a_p0_rules_need, .ref a_p0_rules_kind, .ref a_p0_rules_first, .ref a_p0_rules_second, .ref a_p0_rules_after])), (a_p0_rules_need, .inl (G 1, 7, .inl v_p0_rules_need)), (a_p0_rules_after, .inl (G 1, 35, .inl v_p0_rules_after)), (a_p0_state, .inr (8, [.ref a_p0_state_pieces, .ref a_p0_state_friends, .ref a_p0_state_spoons, .ref a_p0_state_eaten, .ref a_p0_state_seen, .int i_p0_state_seenDays, .int i_p0_state_bone, .int i_p0_state_king, .int i_p0_state_days])), (a_p0_state_pieces, .inl (G 1, 7, .inl v_p0_state_pieces)), (a_p0_state_friends, .inl (G 1, 7, .inl v_p0_state_friends)), (a_p0_state_spoons, .inl (G 1, 7, .inl v_p0_state_spoons)), (a_p0_state_eaten, .inl (G 1, 7, .inl v_p0_state_eaten)), (a_p0_state_seen, .inl (G 1, 6, .inl v_p0_state_seen)), (a_p0_tape, .inr (9, [.ref a_p0_tape_bytes, .int z22, .int z7, .int z8, .int z9, .int i_p0_tape_value])), (a_p0_tape_bytes, .inl (G 0, 320, .inl v_p0_tape_bytes)), (a_p0_reader, .inr (10, [.ref a_p0_tape, .ref a_p0_reader_rules, .ref a_p0_reader_state, .int z2, .int z3, .int z4, .int z5, .int z6, .ref a_p0_reader_numbers])), (a_p0_reader_rules, .inr (6, [.int z10, .int z11, .ref a_p0_reader_rules_need, .ref a_p0_reader_rules_kind, .ref a_p0_reader_rules_first, .ref a_p0_reader_rules_second, .ref a_p0_reader_rules_after])), (a_p0_reader_rules_need, .inl (G 1, 7, .inl w12)), (a_p0_reader_rules_after, .inl (G 1, 35, .inl v_p0_reader_rules_after)), (a_p0_reader_state, .inr (8, [.ref a_p0_reader_state_pieces, .ref a_p0_reader_state_friends, .ref a_p0_reader_state_spoons, .ref a_p0_reader_state_eaten, .ref a_p0_reader_state_seen, .int z13, .int z14, .int z15, .int z16])), (a_p0_reader_state_pieces, .inl (G 1, 7, .inl w17)), (a_p0_reader_state_friends, .inl (G 1, 7, .inl w18)), (a_p0_reader_state_spoons, .inl (G 1, 7, .inl w19)), (a_p0_reader_state_eaten, .inl (G 1, 7, .inl w20)), (a_p0_reader_state_seen, .inl (G 1, 6, .inl v_p0_reader_state_seen)), (a_p0_imageHeld, .inl (G 3, 2, .inl v_p0_imageHeld))] H := hP
  have hD : va_D A [(a_p0, .inr (11, [.ref a_p0_rules, .ref a_p0_state, .ref a_p0_tape, .ref a_p0_reader, .ref a_p0_kitchen, .ref a_p0_luck, .ref a_p0_plans, .ref a_p0_coups, .ref a_p0_past, .ref a_p0_fairDays, .ref a_p0_images, .ref a_p0_imageHeld, .ref a_p0_sheets, .int i_p0_latestFault, .int i_p0_latestTear])), (a_p0_rules, .inr (6, [.int i_p0_rules_seats, .int i_p0_rules_stirs, .ref a_p0_rules_need, .ref a_p0_rules_kind, .ref a_p0_rules_first, .ref a_p0_rules_second, .ref a_p0_rules_after])), (a_p0_rules_need, .inl (G 1, 7, .inl v_p0_rules_need)), (a_p0_rules_after, .inl (G 1, 35, .inl v_p0_rules_after)), (a_p0_state, .inr (8, [.ref a_p0_state_pieces, .ref a_p0_state_friends, .ref a_p0_state_spoons, .ref a_p0_state_eaten, .ref a_p0_state_seen, .int i_p0_state_seenDays, .int i_p0_state_bone, .int i_p0_state_king, .int i_p0_state_days])), (a_p0_state_pieces, .inl (G 1, 7, .inl v_p0_state_pieces)), (a_p0_state_friends, .inl (G 1, 7, .inl v_p0_state_friends)), (a_p0_state_spoons, .inl (G 1, 7, .inl v_p0_state_spoons)), (a_p0_state_eaten, .inl (G 1, 7, .inl v_p0_state_eaten)), (a_p0_state_seen, .inl (G 1, 6, .inl v_p0_state_seen)), (a_p0_tape, .inr (9, [.ref a_p0_tape_bytes, .int z22, .int z7, .int z8, .int z9, .int i_p0_tape_value])), (a_p0_tape_bytes, .inl (G 0, 320, .inl v_p0_tape_bytes)), (a_p0_reader, .inr (10, [.ref a_p0_tape, .ref a_p0_reader_rules, .ref a_p0_reader_state, .int z2, .int z3, .int z4, .int z5, .int z6, .ref a_p0_reader_numbers])), (a_p0_reader_rules, .inr (6, [.int z10, .int z11, .ref a_p0_reader_rules_need, .ref a_p0_reader_rules_kind, .ref a_p0_reader_rules_first, .ref a_p0_reader_rules_second, .ref a_p0_reader_rules_after])), (a_p0_reader_rules_need, .inl (G 1, 7, .inl w12)), (a_p0_reader_rules_after, .inl (G 1, 35, .inl v_p0_reader_rules_after)), (a_p0_reader_state, .inr (8, [.ref a_p0_reader_state_pieces, .ref a_p0_reader_state_friends, .ref a_p0_reader_state_spoons, .ref a_p0_reader_state_eaten, .ref a_p0_reader_state_seen, .int z13, .int z14, .int z15, .int z16])), (a_p0_reader_state_pieces, .inl (G 1, 7, .inl w17)), (a_p0_reader_state_friends, .inl (G 1, 7, .inl w18)), (a_p0_reader_state_spoons, .inl (G 1, 7, .inl w19)), (a_p0_reader_state_eaten, .inl (G 1, 7, .inl w20)), (a_p0_reader_state_seen, .inl (G 1, 6, .inl v_p0_reader_state_seen)), (a_p0_imageHeld, .inl (G 3, 2, .inl v_p0_imageHeld))] := hD
  refine lv_aload_n hx hb dX11_text_16 rfl (lv_at hl 1 rfl) ?_
  refine lv_aload_n hx hb dX11_text_17 rfl (lv_at hl 1 rfl) ?_
  refine va_get (D := D) (ci := 11) (v := .ref a_p0_reader) (C := RX11) (T := TX11) (N := 15) hx hb hts inX11_text_X11 hown hK hP 0 rfl rfl 3 (by decide) (hts _ mwX11_text_1) (fun _ h9 => h9) rfl dX11_text_18 ?_
  refine va_get (D := D) (ci := 10) (v := .int z2) (C := RX10) (T := TX10) (N := 9) hx hb hts inX11_text_X10 hown hK hP 12 rfl rfl 3 (by decide) (hts _ mwX11_text_6) (fun _ h9 => h9) rfl dX11_text_21 ?_
  refine lv_topi (fun z23 ez => ?_)
  replace hf := bnd_s hf ez
  clear ez
  refine va_put (D := D) (ci := 11) (v := .int z23) (ty := .int) (C := RX11) (T := TX11) (N := 15) hx hb hts inX11_text_X11 tyX11 tyX11_ok nmX11 hown hK hP hD hS 0 rfl rfl 13 (by decide) (hts _ mwX11_text_7) (fun _ h9 => h9) rfl (by decide +kernel) rfl rfl (Nat.le_of_ble_eq_true rfl) dX11_text_24 (fun H locs hP hD hS => ?_)
  have hP : va_P D vwCl [(a_p0, .inr (11, [.ref a_p0_rules, .ref a_p0_state, .ref a_p0_tape, .ref a_p0_reader, .ref a_p0_kitchen, .ref a_p0_luck, .ref a_p0_plans, .ref a_p0_coups, .ref a_p0_past, .ref a_p0_fairDays, .ref a_p0_images, .ref a_p0_imageHeld, .ref a_p0_sheets, .int z23, .int i_p0_latestTear])), (a_p0_rules, .inr (6, [.int i_p0_rules_seats, .int i_p0_rules_stirs, .ref a_p0_rules_need, .ref a_p0_rules_kind, .ref a_p0_rules_first, .ref a_p0_rules_second, .ref a_p0_rules_after])), (a_p0_rules_need, .inl (G 1, 7, .inl v_p0_rules_need)), (a_p0_rules_after, .inl (G 1, 35, .inl v_p0_rules_after)), (a_p0_state, .inr (8, [.ref a_p0_state_pieces, .ref a_p0_state_friends, .ref a_p0_state_spoons, .ref a_p0_state_eaten, .ref a_p0_state_seen, .int i_p0_state_seenDays, .int i_p0_state_bone, .int i_p0_state_king, .int i_p0_state_days])), (a_p0_state_pieces, .inl (G 1, 7, .inl v_p0_state_pieces)), (a_p0_state_friends, .inl (G 1, 7, .inl v_p0_state_friends)), (a_p0_state_spoons, .inl (G 1, 7, .inl v_p0_state_spoons)), (a_p0_state_eaten, .inl (G 1, 7, .inl v_p0_state_eaten)), (a_p0_state_seen, .inl (G 1, 6, .inl v_p0_state_seen)), (a_p0_tape, .inr (9, [.ref a_p0_tape_bytes, .int z22, .int z7, .int z8, .int z9, .int i_p0_tape_value])), (a_p0_tape_bytes, .inl (G 0, 320, .inl v_p0_tape_bytes)), (a_p0_reader, .inr (10, [.ref a_p0_tape, .ref a_p0_reader_rules, .ref a_p0_reader_state, .int z2, .int z3, .int z4, .int z5, .int z6, .ref a_p0_reader_numbers])), (a_p0_reader_rules, .inr (6, [.int z10, .int z11, .ref a_p0_reader_rules_need, .ref a_p0_reader_rules_kind, .ref a_p0_reader_rules_first, .ref a_p0_reader_rules_second, .ref a_p0_reader_rules_after])), (a_p0_reader_rules_need, .inl (G 1, 7, .inl w12)), (a_p0_reader_rules_after, .inl (G 1, 35, .inl v_p0_reader_rules_after)), (a_p0_reader_state, .inr (8, [.ref a_p0_reader_state_pieces, .ref a_p0_reader_state_friends, .ref a_p0_reader_state_spoons, .ref a_p0_reader_state_eaten, .ref a_p0_reader_state_seen, .int z13, .int z14, .int z15, .int z16])), (a_p0_reader_state_pieces, .inl (G 1, 7, .inl w17)), (a_p0_reader_state_friends, .inl (G 1, 7, .inl w18)), (a_p0_reader_state_spoons, .inl (G 1, 7, .inl w19)), (a_p0_reader_state_eaten, .inl (G 1, 7, .inl w20)), (a_p0_reader_state_seen, .inl (G 1, 6, .inl v_p0_reader_state_seen)), (a_p0_imageHeld, .inl (G 3, 2, .inl v_p0_imageHeld))] H := hP
  have hD : va_D A [(a_p0, .inr (11, [.ref a_p0_rules, .ref a_p0_state, .ref a_p0_tape, .ref a_p0_reader, .ref a_p0_kitchen, .ref a_p0_luck, .ref a_p0_plans, .ref a_p0_coups, .ref a_p0_past, .ref a_p0_fairDays, .ref a_p0_images, .ref a_p0_imageHeld, .ref a_p0_sheets, .int z23, .int i_p0_latestTear])), (a_p0_rules, .inr (6, [.int i_p0_rules_seats, .int i_p0_rules_stirs, .ref a_p0_rules_need, .ref a_p0_rules_kind, .ref a_p0_rules_first, .ref a_p0_rules_second, .ref a_p0_rules_after])), (a_p0_rules_need, .inl (G 1, 7, .inl v_p0_rules_need)), (a_p0_rules_after, .inl (G 1, 35, .inl v_p0_rules_after)), (a_p0_state, .inr (8, [.ref a_p0_state_pieces, .ref a_p0_state_friends, .ref a_p0_state_spoons, .ref a_p0_state_eaten, .ref a_p0_state_seen, .int i_p0_state_seenDays, .int i_p0_state_bone, .int i_p0_state_king, .int i_p0_state_days])), (a_p0_state_pieces, .inl (G 1, 7, .inl v_p0_state_pieces)), (a_p0_state_friends, .inl (G 1, 7, .inl v_p0_state_friends)), (a_p0_state_spoons, .inl (G 1, 7, .inl v_p0_state_spoons)), (a_p0_state_eaten, .inl (G 1, 7, .inl v_p0_state_eaten)), (a_p0_state_seen, .inl (G 1, 6, .inl v_p0_state_seen)), (a_p0_tape, .inr (9, [.ref a_p0_tape_bytes, .int z22, .int z7, .int z8, .int z9, .int i_p0_tape_value])), (a_p0_tape_bytes, .inl (G 0, 320, .inl v_p0_tape_bytes)), (a_p0_reader, .inr (10, [.ref a_p0_tape, .ref a_p0_reader_rules, .ref a_p0_reader_state, .int z2, .int z3, .int z4, .int z5, .int z6, .ref a_p0_reader_numbers])), (a_p0_reader_rules, .inr (6, [.int z10, .int z11, .ref a_p0_reader_rules_need, .ref a_p0_reader_rules_kind, .ref a_p0_reader_rules_first, .ref a_p0_reader_rules_second, .ref a_p0_reader_rules_after])), (a_p0_reader_rules_need, .inl (G 1, 7, .inl w12)), (a_p0_reader_rules_after, .inl (G 1, 35, .inl v_p0_reader_rules_after)), (a_p0_reader_state, .inr (8, [.ref a_p0_reader_state_pieces, .ref a_p0_reader_state_friends, .ref a_p0_reader_state_spoons, .ref a_p0_reader_state_eaten, .ref a_p0_reader_state_seen, .int z13, .int z14, .int z15, .int z16])), (a_p0_reader_state_pieces, .inl (G 1, 7, .inl w17)), (a_p0_reader_state_friends, .inl (G 1, 7, .inl w18)), (a_p0_reader_state_spoons, .inl (G 1, 7, .inl w19)), (a_p0_reader_state_eaten, .inl (G 1, 7, .inl w20)), (a_p0_reader_state_seen, .inl (G 1, 6, .inl v_p0_reader_state_seen)), (a_p0_imageHeld, .inl (G 3, 2, .inl v_p0_imageHeld))] := hD
  refine lv_aload_n hx hb dX11_text_27 rfl (lv_at hl 1 rfl) ?_
  refine va_get (D := D) (ci := 11) (v := .int z23) (C := RX11) (T := TX11) (N := 15) hx hb hts inX11_text_X11 hown hK hP 0 rfl rfl 13 (by decide) (hts _ mwX11_text_7) (fun _ h9 => h9) rfl dX11_text_28 ?_
  refine lv_if_ne (tgt := 82) hx hb dX11_text_31 (by decide) (fun cc => ?_) (fun cc => ?_)
  ·
    replace hf := ite_f cc hf
    clear cc
    refine lv_iload_n hx hb dX11_text_82 rfl (lv_at hl 0 rfl) ?_
    obtain ⟨rfl, rfl, rfl, rfl, rfl, rfl, rfl, rfl, rfl, rfl, rfl, rfl, rfl, rfl, rfl, rfl, rfl, rfl, rfl, rfl, rfl, rfl, rfl, rfl, rfl, rfl, rfl, rfl, rfl, rfl, rfl, rfl, rfl, rfl, rfl, rfl⟩ := ou36 hf
    rw [hQ]
    exact W.iret hx hb hr (fun t ht hW => ⟨⟨_, (), rfl, rfl, by rw [ht]; exact hP, va_K.moved hW.alike hK, hD⟩, hS.F ht⟩) hS.2.2 dX11_text_83
  ·
    replace hf := ite_t cc hf
    clear cc
    refine lv_aload_n hx hb dX11_text_34 rfl (lv_at hl 1 rfl) ?_
    refine va_get (D := D) (ci := 11) (v := .ref a_p0_rules) (C := RX11) (T := TX11) (N := 15) hx hb hts inX11_text_X11 hown hK hP 0 rfl rfl 0 (by decide) (hts _ mwX11_text_8) (fun _ h9 => h9) rfl dX11_text_35 ?_
    refine lv_aload_n hx hb dX11_text_38 rfl (lv_at hl 1 rfl) ?_
    refine va_get (D := D) (ci := 11) (v := .ref a_p0_reader) (C := RX11) (T := TX11) (N := 15) hx hb hts inX11_text_X11 hown hK hP 0 rfl rfl 3 (by decide) (hts _ mwX11_text_1) (fun _ h9 => h9) rfl dX11_text_39 ?_
    refine va_get (D := D) (ci := 10) (v := .ref a_p0_reader_rules) (C := RX10) (T := TX10) (N := 9) hx hb hts inX11_text_X10 hown hK hP 12 rfl rfl 1 (by decide) (hts _ mwX11_text_9) (fun _ h9 => h9) rfl dX11_text_42 ?_
    have hq := bd4_s hf
    clear hf
    obtain ⟨z24, z25, w26, w27, hcall, hf⟩ := hq
    refine gcV (ws' := [(a_p0, .inr (11, [.ref a_p0_rules, .ref a_p0_state, .ref a_p0_tape, .ref a_p0_reader, .ref a_p0_kitchen, .ref a_p0_luck, .ref a_p0_plans, .ref a_p0_coups, .ref a_p0_past, .ref a_p0_fairDays, .ref a_p0_images, .ref a_p0_imageHeld, .ref a_p0_sheets, .int z23, .int i_p0_latestTear])), (a_p0_rules, .inr (6, [.int z24, .int z25, .ref a_p0_rules_need, .ref a_p0_rules_kind, .ref a_p0_rules_first, .ref a_p0_rules_second, .ref a_p0_rules_after])), (a_p0_rules_need, .inl (G 1, 7, .inl w26)), (a_p0_rules_after, .inl (G 1, 35, .inl w27)), (a_p0_state, .inr (8, [.ref a_p0_state_pieces, .ref a_p0_state_friends, .ref a_p0_state_spoons, .ref a_p0_state_eaten, .ref a_p0_state_seen, .int i_p0_state_seenDays, .int i_p0_state_bone, .int i_p0_state_king, .int i_p0_state_days])), (a_p0_state_pieces, .inl (G 1, 7, .inl v_p0_state_pieces)), (a_p0_state_friends, .inl (G 1, 7, .inl v_p0_state_friends)), (a_p0_state_spoons, .inl (G 1, 7, .inl v_p0_state_spoons)), (a_p0_state_eaten, .inl (G 1, 7, .inl v_p0_state_eaten)), (a_p0_state_seen, .inl (G 1, 6, .inl v_p0_state_seen)), (a_p0_tape, .inr (9, [.ref a_p0_tape_bytes, .int z22, .int z7, .int z8, .int z9, .int i_p0_tape_value])), (a_p0_tape_bytes, .inl (G 0, 320, .inl v_p0_tape_bytes)), (a_p0_reader, .inr (10, [.ref a_p0_tape, .ref a_p0_reader_rules, .ref a_p0_reader_state, .int z2, .int z3, .int z4, .int z5, .int z6, .ref a_p0_reader_numbers])), (a_p0_reader_rules, .inr (6, [.int z10, .int z11, .ref a_p0_reader_rules_need, .ref a_p0_reader_rules_kind, .ref a_p0_reader_rules_first, .ref a_p0_reader_rules_second, .ref a_p0_reader_rules_after])), (a_p0_reader_rules_need, .inl (G 1, 7, .inl w12)), (a_p0_reader_rules_after, .inl (G 1, 35, .inl v_p0_reader_rules_after)), (a_p0_reader_state, .inr (8, [.ref a_p0_reader_state_pieces, .ref a_p0_reader_state_friends, .ref a_p0_reader_state_spoons, .ref a_p0_reader_state_eaten, .ref a_p0_reader_state_seen, .int z13, .int z14, .int z15, .int z16])), (a_p0_reader_state_pieces, .inl (G 1, 7, .inl w17)), (a_p0_reader_state_friends, .inl (G 1, 7, .inl w18)), (a_p0_reader_state_spoons, .inl (G 1, 7, .inl w19)), (a_p0_reader_state_eaten, .inl (G 1, 7, .inl w20)), (a_p0_reader_state_seen, .inl (G 1, 6, .inl v_p0_reader_state_seen)), (a_p0_imageHeld, .inl (G 3, 2, .inl v_p0_imageHeld))]) (va_runV (As := [.ref a_p0_reader_rules]) (rest := []) ⟨hx, hb, hml, hown, hts⟩ (c_X6_copy (l := l) (D := D) (G := G) (sz := H.size) (a_p0 := a_p0_rules) (a_p0_need := a_p0_rules_need) (a_p0_kind := a_p0_rules_kind) (a_p0_first := a_p0_rules_first) (a_p0_second := a_p0_rules_second) (a_p0_after := a_p0_rules_after) (a_p1 := a_p0_reader_rules) (a_p1_need := a_p0_reader_rules_need) (a_p1_kind := a_p0_reader_rules_kind) (a_p1_first := a_p0_reader_rules_first) (a_p1_second := a_p0_reader_rules_second) (a_p1_after := a_p0_reader_rules_after) (i_p0_seats := i_p0_rules_seats) (i_p0_stirs := i_p0_rules_stirs) (v_p0_need := v_p0_rules_need) (v_p0_after := v_p0_rules_after) (i_p1_seats := z10) (i_p1_stirs := z11) (v_p1_need := w12) (v_p1_after := v_p0_reader_rules_after) (o_i_p0_seats := z24) (o_i_p0_stirs := z25) (o_v_p0_need := w26) (o_v_p0_after := w27) (hf := hcall)) (cwV 1 hts gX11_text_X6_copy rfl rfl rfl (by decide +kernel) ⟨Nat.le_of_ble_eq_true rfl, Nat.le_of_ble_eq_true rfl⟩) (preG_V (ci := 6) (hP.sub [1, 2, 3, 13, 14, 15] rfl) (hD.sub [1, 2, 3, 13, 14, 15] rfl rfl) hK rfl rfl) rfl rfl hl.1 rfl (lv_room (Nat.le_of_ble_eq_true rfl)) dX11_text_45 ⟨Nat.le_of_ble_eq_true rfl, Nat.le_of_ble_eq_true rfl⟩) hP hD hS hA [1, 2, 3, 13, 14, 15] [0, 4, 5, 6, 7, 8, 9, 10, 11, 12, 16, 17, 18, 19, 20, 21, 22] [0, 17, 18, 19, 1, 2, 3, 4, 5, 6, 7, 8, 9, 20, 21, 22, 10, 11, 12, 13, 14, 15, 16] rfl rfl rfl (by decide) rfl rfl rfl (fun H locs hP hD hS => ?_)
    clear hcall
    refine lv_aload_n hx hb dX11_text_48 rfl (lv_at hl 1 rfl) ?_
    refine va_get (D := D) (ci := 11) (v := .ref a_p0_state) (C := RX11) (T := TX11) (N := 15) hx hb hts inX11_text_X11 hown hK hP 0 rfl rfl 1 (by decide) (hts _ mwX11_text_10) (fun _ h9 => h9) rfl dX11_text_49 ?_
    refine lv_aload_n hx hb dX11_text_52 rfl (lv_at hl 1 rfl) ?_
    refine va_get (D := D) (ci := 11) (v := .ref a_p0_reader) (C := RX11) (T := TX11) (N := 15) hx hb hts inX11_text_X11 hown hK hP 0 rfl rfl 3 (by decide) (hts _ mwX11_text_1) (fun _ h9 => h9) rfl dX11_text_53 ?_
    refine va_get (D := D) (ci := 10) (v := .ref a_p0_reader_state) (C := RX10) (T := TX10) (N := 9) hx hb hts inX11_text_X10 hown hK hP 12 rfl rfl 2 (by decide) (hts _ mwX11_text_11) (fun _ h9 => h9) rfl dX11_text_56 ?_
    have hq := bd9_s hf
    clear hf
    obtain ⟨z28, z29, z30, z31, w32, w33, w34, w35, w36, hcall, hf⟩ := hq
    refine gcV (ws' := [(a_p0, .inr (11, [.ref a_p0_rules, .ref a_p0_state, .ref a_p0_tape, .ref a_p0_reader, .ref a_p0_kitchen, .ref a_p0_luck, .ref a_p0_plans, .ref a_p0_coups, .ref a_p0_past, .ref a_p0_fairDays, .ref a_p0_images, .ref a_p0_imageHeld, .ref a_p0_sheets, .int z23, .int i_p0_latestTear])), (a_p0_rules, .inr (6, [.int z24, .int z25, .ref a_p0_rules_need, .ref a_p0_rules_kind, .ref a_p0_rules_first, .ref a_p0_rules_second, .ref a_p0_rules_after])), (a_p0_rules_need, .inl (G 1, 7, .inl w26)), (a_p0_rules_after, .inl (G 1, 35, .inl w27)), (a_p0_state, .inr (8, [.ref a_p0_state_pieces, .ref a_p0_state_friends, .ref a_p0_state_spoons, .ref a_p0_state_eaten, .ref a_p0_state_seen, .int z28, .int z29, .int z30, .int z31])), (a_p0_state_pieces, .inl (G 1, 7, .inl w32)), (a_p0_state_friends, .inl (G 1, 7, .inl w33)), (a_p0_state_spoons, .inl (G 1, 7, .inl w34)), (a_p0_state_eaten, .inl (G 1, 7, .inl w35)), (a_p0_state_seen, .inl (G 1, 6, .inl w36)), (a_p0_tape, .inr (9, [.ref a_p0_tape_bytes, .int z22, .int z7, .int z8, .int z9, .int i_p0_tape_value])), (a_p0_tape_bytes, .inl (G 0, 320, .inl v_p0_tape_bytes)), (a_p0_reader, .inr (10, [.ref a_p0_tape, .ref a_p0_reader_rules, .ref a_p0_reader_state, .int z2, .int z3, .int z4, .int z5, .int z6, .ref a_p0_reader_numbers])), (a_p0_reader_rules, .inr (6, [.int z10, .int z11, .ref a_p0_reader_rules_need, .ref a_p0_reader_rules_kind, .ref a_p0_reader_rules_first, .ref a_p0_reader_rules_second, .ref a_p0_reader_rules_after])), (a_p0_reader_rules_need, .inl (G 1, 7, .inl w12)), (a_p0_reader_rules_after, .inl (G 1, 35, .inl v_p0_reader_rules_after)), (a_p0_reader_state, .inr (8, [.ref a_p0_reader_state_pieces, .ref a_p0_reader_state_friends, .ref a_p0_reader_state_spoons, .ref a_p0_reader_state_eaten, .ref a_p0_reader_state_seen, .int z13, .int z14, .int z15, .int z16])), (a_p0_reader_state_pieces, .inl (G 1, 7, .inl w17)), (a_p0_reader_state_friends, .inl (G 1, 7, .inl w18)), (a_p0_reader_state_spoons, .inl (G 1, 7, .inl w19)), (a_p0_reader_state_eaten, .inl (G 1, 7, .inl w20)), (a_p0_reader_state_seen, .inl (G 1, 6, .inl v_p0_reader_state_seen)), (a_p0_imageHeld, .inl (G 3, 2, .inl v_p0_imageHeld))]) (va_runV (As := [.ref a_p0_reader_state]) (rest := []) ⟨hx, hb, hml, hown, hts⟩ (c_X8_copy (l := l) (D := D) (G := G) (sz := H.size) (a_p0 := a_p0_state) (a_p0_pieces := a_p0_state_pieces) (a_p0_friends := a_p0_state_friends) (a_p0_spoons := a_p0_state_spoons) (a_p0_eaten := a_p0_state_eaten) (a_p0_seen := a_p0_state_seen) (a_p1 := a_p0_reader_state) (a_p1_pieces := a_p0_reader_state_pieces) (a_p1_friends := a_p0_reader_state_friends) (a_p1_spoons := a_p0_reader_state_spoons) (a_p1_eaten := a_p0_reader_state_eaten) (a_p1_seen := a_p0_reader_state_seen) (i_p0_seenDays := i_p0_state_seenDays) (i_p0_bone := i_p0_state_bone) (i_p0_king := i_p0_state_king) (i_p0_days := i_p0_state_days) (v_p0_pieces := v_p0_state_pieces) (v_p0_friends := v_p0_state_friends) (v_p0_spoons := v_p0_state_spoons) (v_p0_eaten := v_p0_state_eaten) (v_p0_seen := v_p0_state_seen) (i_p1_seenDays := z13) (i_p1_bone := z14) (i_p1_king := z15) (i_p1_days := z16) (v_p1_pieces := w17) (v_p1_friends := w18) (v_p1_spoons := w19) (v_p1_eaten := w20) (v_p1_seen := v_p0_reader_state_seen) (o_i_p0_seenDays := z28) (o_i_p0_bone := z29) (o_i_p0_king := z30) (o_i_p0_days := z31) (o_v_p0_pieces := w32) (o_v_p0_friends := w33) (o_v_p0_spoons := w34) (o_v_p0_eaten := w35) (o_v_p0_seen := w36) (hf := hcall)) (cwV 1 hts gX11_text_X8_copy rfl rfl rfl (by decide +kernel) ⟨Nat.le_of_ble_eq_true rfl, Nat.le_of_ble_eq_true rfl⟩) (preG_V (ci := 8) (hP.sub [4, 5, 6, 7, 8, 9, 16, 17, 18, 19, 20, 21] rfl) (hD.sub [4, 5, 6, 7, 8, 9, 16, 17, 18, 19, 20, 21] rfl rfl) hK rfl rfl) rfl rfl hl.1 rfl (lv_room (Nat.le_of_ble_eq_true rfl)) dX11_text_59 ⟨Nat.le_of_ble_eq_true rfl, Nat.le_of_ble_eq_true rfl⟩) hP hD hS hA [4, 5, 6, 7, 8, 9, 16, 17, 18, 19, 20, 21] [0, 1, 2, 3, 10, 11, 12, 13, 14, 15, 22] [0, 1, 2, 3, 11, 12, 13, 14, 15, 16, 4, 5, 6, 7, 8, 9, 17, 18, 19, 20, 21, 22, 10] rfl rfl rfl (by decide) rfl rfl rfl (fun H locs hP hD hS => ?_)
    clear hcall
    refine lv_iconst (v := (0 : Int32)) hx hb dX11_text_62 (by decide) ?_
    refine lv_topi (fun z37 ez => ?_)
    replace hf := bnd_s hf ez
    clear ez
    refine lv_istore_n (lv' := [(2, .int z37), (1, .int z21), (0, .ref a_p0)]) hx hb dX11_text_63 rfl hl (by decide) rfl (fun ls hl => ?_)
    have hq := lq2_i hf
    clear hf
    obtain ⟨B40, eB40, NB40, hf⟩ := hq
    have hB40 : ∀ (n : Nat) (z38 : Int32) (w39 : (Nat → Int32)) (ls : Array Slot) (H : Heap) (locs : List Loc), lv_has ls 3 [(2, .int z38), (1, .int z21), (0, .ref a_p0)] → va_P D vwCl [(a_p0, .inr (11, [.ref a_p0_rules, .ref a_p0_state, .ref a_p0_tape, .ref a_p0_reader, .ref a_p0_kitchen, .ref a_p0_luck, .ref a_p0_plans, .ref a_p0_coups, .ref a_p0_past, .ref a_p0_fairDays, .ref a_p0_images, .ref a_p0_imageHeld, .ref a_p0_sheets, .int z23, .int i_p0_latestTear])), (a_p0_rules, .inr (6, [.int z24, .int z25, .ref a_p0_rules_need, .ref a_p0_rules_kind, .ref a_p0_rules_first, .ref a_p0_rules_second, .ref a_p0_rules_after])), (a_p0_rules_need, .inl (G 1, 7, .inl w26)), (a_p0_rules_after, .inl (G 1, 35, .inl w27)), (a_p0_state, .inr (8, [.ref a_p0_state_pieces, .ref a_p0_state_friends, .ref a_p0_state_spoons, .ref a_p0_state_eaten, .ref a_p0_state_seen, .int z28, .int z29, .int z30, .int z31])), (a_p0_state_pieces, .inl (G 1, 7, .inl w32)), (a_p0_state_friends, .inl (G 1, 7, .inl w33)), (a_p0_state_spoons, .inl (G 1, 7, .inl w34)), (a_p0_state_eaten, .inl (G 1, 7, .inl w35)), (a_p0_state_seen, .inl (G 1, 6, .inl w36)), (a_p0_tape, .inr (9, [.ref a_p0_tape_bytes, .int z22, .int z7, .int z8, .int z9, .int i_p0_tape_value])), (a_p0_tape_bytes, .inl (G 0, 320, .inl v_p0_tape_bytes)), (a_p0_reader, .inr (10, [.ref a_p0_tape, .ref a_p0_reader_rules, .ref a_p0_reader_state, .int z2, .int z3, .int z4, .int z5, .int z6, .ref a_p0_reader_numbers])), (a_p0_reader_rules, .inr (6, [.int z10, .int z11, .ref a_p0_reader_rules_need, .ref a_p0_reader_rules_kind, .ref a_p0_reader_rules_first, .ref a_p0_reader_rules_second, .ref a_p0_reader_rules_after])), (a_p0_reader_rules_need, .inl (G 1, 7, .inl w12)), (a_p0_reader_rules_after, .inl (G 1, 35, .inl v_p0_reader_rules_after)), (a_p0_reader_state, .inr (8, [.ref a_p0_reader_state_pieces, .ref a_p0_reader_state_friends, .ref a_p0_reader_state_spoons, .ref a_p0_reader_state_eaten, .ref a_p0_reader_state_seen, .int z13, .int z14, .int z15, .int z16])), (a_p0_reader_state_pieces, .inl (G 1, 7, .inl w17)), (a_p0_reader_state_friends, .inl (G 1, 7, .inl w18)), (a_p0_reader_state_spoons, .inl (G 1, 7, .inl w19)), (a_p0_reader_state_eaten, .inl (G 1, 7, .inl w20)), (a_p0_reader_state_seen, .inl (G 1, 6, .inl v_p0_reader_state_seen)), (a_p0_imageHeld, .inl (G 3, 2, .inl w39))] H → va_D A [(a_p0, .inr (11, [.ref a_p0_rules, .ref a_p0_state, .ref a_p0_tape, .ref a_p0_reader, .ref a_p0_kitchen, .ref a_p0_luck, .ref a_p0_plans, .ref a_p0_coups, .ref a_p0_past, .ref a_p0_fairDays, .ref a_p0_images, .ref a_p0_imageHeld, .ref a_p0_sheets, .int z23, .int i_p0_latestTear])), (a_p0_rules, .inr (6, [.int z24, .int z25, .ref a_p0_rules_need, .ref a_p0_rules_kind, .ref a_p0_rules_first, .ref a_p0_rules_second, .ref a_p0_rules_after])), (a_p0_rules_need, .inl (G 1, 7, .inl w26)), (a_p0_rules_after, .inl (G 1, 35, .inl w27)), (a_p0_state, .inr (8, [.ref a_p0_state_pieces, .ref a_p0_state_friends, .ref a_p0_state_spoons, .ref a_p0_state_eaten, .ref a_p0_state_seen, .int z28, .int z29, .int z30, .int z31])), (a_p0_state_pieces, .inl (G 1, 7, .inl w32)), (a_p0_state_friends, .inl (G 1, 7, .inl w33)), (a_p0_state_spoons, .inl (G 1, 7, .inl w34)), (a_p0_state_eaten, .inl (G 1, 7, .inl w35)), (a_p0_state_seen, .inl (G 1, 6, .inl w36)), (a_p0_tape, .inr (9, [.ref a_p0_tape_bytes, .int z22, .int z7, .int z8, .int z9, .int i_p0_tape_value])), (a_p0_tape_bytes, .inl (G 0, 320, .inl v_p0_tape_bytes)), (a_p0_reader, .inr (10, [.ref a_p0_tape, .ref a_p0_reader_rules, .ref a_p0_reader_state, .int z2, .int z3, .int z4, .int z5, .int z6, .ref a_p0_reader_numbers])), (a_p0_reader_rules, .inr (6, [.int z10, .int z11, .ref a_p0_reader_rules_need, .ref a_p0_reader_rules_kind, .ref a_p0_reader_rules_first, .ref a_p0_reader_rules_second, .ref a_p0_reader_rules_after])), (a_p0_reader_rules_need, .inl (G 1, 7, .inl w12)), (a_p0_reader_rules_after, .inl (G 1, 35, .inl v_p0_reader_rules_after)), (a_p0_reader_state, .inr (8, [.ref a_p0_reader_state_pieces, .ref a_p0_reader_state_friends, .ref a_p0_reader_state_spoons, .ref a_p0_reader_state_eaten, .ref a_p0_reader_state_seen, .int z13, .int z14, .int z15, .int z16])), (a_p0_reader_state_pieces, .inl (G 1, 7, .inl w17)), (a_p0_reader_state_friends, .inl (G 1, 7, .inl w18)), (a_p0_reader_state_spoons, .inl (G 1, 7, .inl w19)), (a_p0_reader_state_eaten, .inl (G 1, 7, .inl w20)), (a_p0_reader_state_seen, .inl (G 1, 6, .inl v_p0_reader_state_seen)), (a_p0_imageHeld, .inl (G 3, 2, .inl w39))] → va_S A s.heap H locs → lq2 B40 n z38 w39 = some (r, o_i_p0_latestFault, o_i_p0_rules_seats, o_i_p0_rules_stirs, o_v_p0_rules_need, o_v_p0_rules_after, o_i_p0_state_seenDays, o_i_p0_state_bone, o_i_p0_state_king, o_i_p0_state_days, o_v_p0_state_pieces, o_v_p0_state_friends, o_v_p0_state_spoons, o_v_p0_state_eaten, o_v_p0_state_seen, o_i_p0_tape_length, o_i_p0_tape_at, o_i_p0_tape_token, o_i_p0_tape_start, o_i_p0_reader_faultFound, o_i_p0_reader_faultPlace, o_i_p0_reader_lines, o_i_p0_reader_met, o_i_p0_reader_greatest, o_i_p0_reader_rules_seats, o_i_p0_reader_rules_stirs, o_v_p0_reader_rules_need, o_i_p0_reader_state_seenDays, o_i_p0_reader_state_bone, o_i_p0_reader_state_king, o_i_p0_reader_state_days, o_v_p0_reader_state_pieces, o_v_p0_reader_state_friends, o_v_p0_reader_state_spoons, o_v_p0_reader_state_eaten, o_v_p0_imageHeld) → W p l e rm_X11_text s m ([.ref a_p0] : List Value).toArray below meth c H locs 0 0 Q (F0 m 64 ls []) := by
      clear hf hl hP hD hS
      intro n
      induction n with
      | zero =>
        intro z38 w39 ls H locs hl hP hD hS hf
        exact (lq2_0 hf).elim
      | succ n ih64 =>
        intro z38 w39 ls H locs hl hP hD hS hf
        replace hf := lq2_s eB40 hf
        unfold B_X11_text_64 at hf
        refine lv_iload_n hx hb dX11_text_64 rfl (lv_at hl 0 rfl) ?_
        refine lv_iconst (v := (2 : Int32)) hx hb dX11_text_65 (by decide) ?_
        refine lv_icmp_ge (tgt := 82) hx hb dX11_text_66 (by decide) (fun cc => ?_) (fun cc => ?_)
        ·
          replace hf := ite_t cc hf
          clear cc
          refine lv_iload_n hx hb dX11_text_82 rfl (lv_at hl 1 rfl) ?_
          obtain ⟨rfl, rfl, rfl, rfl, rfl, rfl, rfl, rfl, rfl, rfl, rfl, rfl, rfl, rfl, rfl, rfl, rfl, rfl, rfl, rfl, rfl, rfl, rfl, rfl, rfl, rfl, rfl, rfl, rfl, rfl, rfl, rfl, rfl, rfl, rfl, rfl⟩ := ou36 hf
          rw [hQ]
          exact W.iret hx hb hr (fun t ht hW => ⟨⟨_, (), rfl, rfl, by rw [ht]; exact hP, va_K.moved hW.alike hK, hD⟩, hS.F ht⟩) hS.2.2 dX11_text_83
        ·
          replace hf := ite_f cc hf
          clear cc
          refine lv_aload_n hx hb dX11_text_69 rfl (lv_at hl 2 rfl) ?_
          refine va_get (D := D) (ci := 11) (v := .ref a_p0_imageHeld) (C := RX11) (T := TX11) (N := 15) hx hb hts inX11_text_X11 hown hK hP 0 rfl rfl 11 (by decide) (hts _ mwX11_text_12) (fun _ h9 => h9) rfl dX11_text_70 ?_
          refine lv_iload_n hx hb dX11_text_73 rfl (lv_at hl 0 rfl) ?_
          refine lv_iconst (v := (0 : Int32)) hx hb dX11_text_74 (by decide) ?_
          have hc := ck_c hf
          replace hf := ck_r hf
          refine gs_zast (wf := fun w41 => [(a_p0, .inr (11, [.ref a_p0_rules, .ref a_p0_state, .ref a_p0_tape, .ref a_p0_reader, .ref a_p0_kitchen, .ref a_p0_luck, .ref a_p0_plans, .ref a_p0_coups, .ref a_p0_past, .ref a_p0_fairDays, .ref a_p0_images, .ref a_p0_imageHeld, .ref a_p0_sheets, .int z23, .int i_p0_latestTear])), (a_p0_rules, .inr (6, [.int z24, .int z25, .ref a_p0_rules_need, .ref a_p0_rules_kind, .ref a_p0_rules_first, .ref a_p0_rules_second, .ref a_p0_rules_after])), (a_p0_rules_need, .inl (G 1, 7, .inl w26)), (a_p0_rules_after, .inl (G 1, 35, .inl w27)), (a_p0_state, .inr (8, [.ref a_p0_state_pieces, .ref a_p0_state_friends, .ref a_p0_state_spoons, .ref a_p0_state_eaten, .ref a_p0_state_seen, .int z28, .int z29, .int z30, .int z31])), (a_p0_state_pieces, .inl (G 1, 7, .inl w32)), (a_p0_state_friends, .inl (G 1, 7, .inl w33)), (a_p0_state_spoons, .inl (G 1, 7, .inl w34)), (a_p0_state_eaten, .inl (G 1, 7, .inl w35)), (a_p0_state_seen, .inl (G 1, 6, .inl w36)), (a_p0_tape, .inr (9, [.ref a_p0_tape_bytes, .int z22, .int z7, .int z8, .int z9, .int i_p0_tape_value])), (a_p0_tape_bytes, .inl (G 0, 320, .inl v_p0_tape_bytes)), (a_p0_reader, .inr (10, [.ref a_p0_tape, .ref a_p0_reader_rules, .ref a_p0_reader_state, .int z2, .int z3, .int z4, .int z5, .int z6, .ref a_p0_reader_numbers])), (a_p0_reader_rules, .inr (6, [.int z10, .int z11, .ref a_p0_reader_rules_need, .ref a_p0_reader_rules_kind, .ref a_p0_reader_rules_first, .ref a_p0_reader_rules_second, .ref a_p0_reader_rules_after])), (a_p0_reader_rules_need, .inl (G 1, 7, .inl w12)), (a_p0_reader_rules_after, .inl (G 1, 35, .inl v_p0_reader_rules_after)), (a_p0_reader_state, .inr (8, [.ref a_p0_reader_state_pieces, .ref a_p0_reader_state_friends, .ref a_p0_reader_state_spoons, .ref a_p0_reader_state_eaten, .ref a_p0_reader_state_seen, .int z13, .int z14, .int z15, .int z16])), (a_p0_reader_state_pieces, .inl (G 1, 7, .inl w17)), (a_p0_reader_state_friends, .inl (G 1, 7, .inl w18)), (a_p0_reader_state_spoons, .inl (G 1, 7, .inl w19)), (a_p0_reader_state_eaten, .inl (G 1, 7, .inl w20)), (a_p0_reader_state_seen, .inl (G 1, 6, .inl v_p0_reader_state_seen)), (a_p0_imageHeld, .inl (G 3, 2, .inl w41))]) hx hb hK hP hD hS 22 3 rfl rfl (ixB_in hc) dX11_text_75 (fun _ => rfl) (fun w41 ez H locs hP hD hS => ?_)
          replace hf := bnd_s hf ez
          clear ez hc
          obtain ⟨z42, ez⟩ : ∃ y : Int32, y = (z38 + (1 : Int32)) := ⟨_, rfl⟩
          replace hf := bnd_s hf ez
          refine lv_iinc (v := z42) (lv' := [(2, .int z42), (1, .int z21), (0, .ref a_p0)]) hx hb dX11_text_76 hl (k := 0) rfl (by rw [ez]; rfl) (by decide) rfl (fun ls hl => ?_)
          clear ez
          refine lv_goto (tgt := 64) hx hb dX11_text_79 (by decide) ?_
          exact ih64 _ _ _ _ _ (lv_sub hl [0, 1, 2] rfl) hP hD hS hf
    exact hB40 _ _ _ _ _ _ (lv_sub hl [0, 1, 2] rfl) hP hD hS hf

noncomputable def f_X11_fault (i_p0_latestFault : Int32) : Option (Int32) := (some i_p0_latestFault)
abbrev rm_X11_fault : Room := { frames := 0, cells := 0, slots := 0, locals := 0 }
theorem inX11_fault_X11 : ∀ w ∈ wsX110, w ∈ wsX11_fault := by decide +kernel
theorem mwX11_fault_1 : Cond.fieldLink RX11 99 "LadleKings" "latestFault" "I" ∈ wsX11_fault := by decide +kernel
set_option maxHeartbeats 8000000 in
set_option maxRecDepth 100000 in
theorem c_X11_fault (l : Launch) (D : va_G) (G : Nat → ClassId) (sz : Nat) (a_p0 : Nat) (a_p0_rules : Nat) (a_p0_state : Nat) (a_p0_tape : Nat) (a_p0_reader : Nat) (a_p0_kitchen : Nat) (a_p0_luck : Nat) (a_p0_plans : Nat) (a_p0_coups : Nat) (a_p0_past : Nat) (a_p0_fairDays : Nat) (a_p0_images : Nat) (a_p0_imageHeld : Nat) (a_p0_sheets : Nat) (i_p0_latestFault : Int32) (i_p0_latestTear : Int32) (r : Int32) (hf : f_X11_fault i_p0_latestFault = some r) : Met l yX11_fault wsX11_fault rm_X11_fault (pcG D G [.ref a_p0] sz [(a_p0, .inr (11, [.ref a_p0_rules, .ref a_p0_state, .ref a_p0_tape, .ref a_p0_reader, .ref a_p0_kitchen, .ref a_p0_luck, .ref a_p0_plans, .ref a_p0_coups, .ref a_p0_past, .ref a_p0_fairDays, .ref a_p0_images, .ref a_p0_imageHeld, .ref a_p0_sheets, .int i_p0_latestFault, .int i_p0_latestTear]))]) (qcI D G r [(a_p0, .inr (11, [.ref a_p0_rules, .ref a_p0_state, .ref a_p0_tape, .ref a_p0_reader, .ref a_p0_kitchen, .ref a_p0_luck, .ref a_p0_plans, .ref a_p0_coups, .ref a_p0_past, .ref a_p0_fairDays, .ref a_p0_images, .ref a_p0_imageHeld, .ref a_p0_sheets, .int i_p0_latestFault, .int i_p0_latestTear]))] (va_A [(a_p0, .inr (11, [.ref a_p0_rules, .ref a_p0_state, .ref a_p0_tape, .ref a_p0_reader, .ref a_p0_kitchen, .ref a_p0_luck, .ref a_p0_plans, .ref a_p0_coups, .ref a_p0_past, .ref a_p0_fairDays, .ref a_p0_images, .ref a_p0_imageHeld, .ref a_p0_sheets, .int i_p0_latestFault, .int i_p0_latestTear]))] sz)) 0 0 (va_A [(a_p0, .inr (11, [.ref a_p0_rules, .ref a_p0_state, .ref a_p0_tape, .ref a_p0_reader, .ref a_p0_kitchen, .ref a_p0_luck, .ref a_p0_plans, .ref a_p0_coups, .ref a_p0_past, .ref a_p0_fairDays, .ref a_p0_images, .ref a_p0_imageHeld, .ref a_p0_sheets, .int i_p0_latestFault, .int i_p0_latestTear]))] sz) := by
  refine Met.ofW (cc := cX11_fault) (maxL := 1) (ret := (some .int)) (by decide) rfl ?_
  intro p e s m args below meth c s₁ B hml hv
  obtain ⟨rfl, hsz, hP, hK, hD0⟩ := hv
  have hx := B.exec
  have hb := B.bytes
  have hr := B.returns
  have hts := atoms_spec (ws := wsX11_fault) B.pre
  have hown : s.vm.findClass RX11 = some m.cls := findClass_of_methodNamed B.named
  have hlocks := B.notSynchronized
  subst hsz
  have hD := hD0.self (sz := s.heap.size)
  generalize hAe : va_A [(a_p0, .inr (11, [.ref a_p0_rules, .ref a_p0_state, .ref a_p0_tape, .ref a_p0_reader, .ref a_p0_kitchen, .ref a_p0_luck, .ref a_p0_plans, .ref a_p0_coups, .ref a_p0_past, .ref a_p0_fairDays, .ref a_p0_images, .ref a_p0_imageHeld, .ref a_p0_sheets, .int i_p0_latestFault, .int i_p0_latestTear]))] s.heap.size = A at hD ⊢
  have hA : ∀ q : Nat, s.heap.size ≤ q → A q := fun q h => by rw [← hAe]; exact Or.inr h
  clear hAe hD0
  have hS : va_S A s.heap s.heap [] := va_S.rf
  have hl := lv_entry ([.ref a_p0]) (n := 1) (Nat.le_of_ble_eq_true rfl)
  rw [lg_entry_eq]
  generalize (lg_sl ([.ref a_p0]) ++ List.replicate (1 - (lg_sl ([.ref a_p0])).length) Slot.unset).toArray = ls at hl ⊢
  have hl : lv_has ls 1 [(0, .ref a_p0)] := hl
  refine W_nameQ (fun Q hQ => ?_)
  obtain ⟨H, hH⟩ : ∃ H, H = s.heap := ⟨_, rfl⟩
  replace hS : va_S A s.heap H [] := by rw [hH]; exact hS
  replace hP : va_P D vwCl [(a_p0, .inr (11, [.ref a_p0_rules, .ref a_p0_state, .ref a_p0_tape, .ref a_p0_reader, .ref a_p0_kitchen, .ref a_p0_luck, .ref a_p0_plans, .ref a_p0_coups, .ref a_p0_past, .ref a_p0_fairDays, .ref a_p0_images, .ref a_p0_imageHeld, .ref a_p0_sheets, .int i_p0_latestFault, .int i_p0_latestTear]))] H := by rw [hH]; exact hP
  rw [← hH]
  clear hH
  unfold f_X11_fault at hf
  refine lv_aload_n hx hb dX11_fault_0 rfl (lv_at hl 0 rfl) ?_
  refine va_get (D := D) (ci := 11) (v := .int i_p0_latestFault) (C := RX11) (T := TX11) (N := 15) hx hb hts inX11_fault_X11 hown hK hP 0 rfl rfl 13 (by decide) (hts _ mwX11_fault_1) (fun _ h9 => h9) rfl dX11_fault_1 ?_
  obtain rfl := ou1 hf
  rw [hQ]
  exact W.iret hx hb hr (fun t ht hW => ⟨⟨_, (), rfl, rfl, by rw [ht]; exact hP, va_K.moved hW.alike hK, hD⟩, hS.F ht⟩) hS.2.2 dX11_fault_4

noncomputable def f_X11_rule (i_p0_rules_seats : Int32) (i_p0_rules_stirs : Int32) (i_p0_state_bone : Int32) (i_p0_state_king : Int32) (i_p0_state_days : Int32) (x1 : Int32) : Option (Int32) := (if x1 = (0 : Int32) then (some i_p0_rules_seats) else (if x1 = (1 : Int32) then (some i_p0_rules_stirs) else (if x1 = (2 : Int32) then (some i_p0_state_king) else (if x1 = (3 : Int32) then (some i_p0_state_days) else (if x1 = (4 : Int32) then (some i_p0_state_bone) else (some (-1 : Int32)))))))
abbrev rm_X11_rule : Room := { frames := 0, cells := 0, slots := 0, locals := 0 }
theorem inX11_rule_X11 : ∀ w ∈ wsX110, w ∈ wsX11_rule := by decide +kernel
theorem mwX11_rule_1 : Cond.fieldLink RX11 10 "LadleKings" "rules" "LLadleKings$Rules;" ∈ wsX11_rule := by decide +kernel
theorem inX11_rule_X6 : ∀ w ∈ wsX60, w ∈ wsX11_rule := by decide +kernel
theorem mwX11_rule_3 : Cond.fieldLink RX11 130 "LadleKings$Rules" "seats" "I" ∈ wsX11_rule := by decide +kernel
theorem mwX11_rule_4 : Cond.fieldLink RX11 133 "LadleKings$Rules" "stirs" "I" ∈ wsX11_rule := by decide +kernel
theorem mwX11_rule_5 : Cond.fieldLink RX11 19 "LadleKings" "state" "LLadleKings$State;" ∈ wsX11_rule := by decide +kernel
theorem inX11_rule_X8 : ∀ w ∈ wsX80, w ∈ wsX11_rule := by decide +kernel
theorem mwX11_rule_7 : Cond.fieldLink RX11 136 "LadleKings$State" "king" "I" ∈ wsX11_rule := by decide +kernel
theorem mwX11_rule_8 : Cond.fieldLink RX11 139 "LadleKings$State" "days" "I" ∈ wsX11_rule := by decide +kernel
theorem mwX11_rule_9 : Cond.fieldLink RX11 142 "LadleKings$State" "bone" "I" ∈ wsX11_rule := by decide +kernel
set_option maxHeartbeats 8000000 in
set_option maxRecDepth 100000 in
theorem c_X11_rule (l : Launch) (D : va_G) (G : Nat → ClassId) (sz : Nat) (a_p0 : Nat) (a_p0_rules : Nat) (a_p0_state : Nat) (a_p0_tape : Nat) (a_p0_reader : Nat) (a_p0_kitchen : Nat) (a_p0_luck : Nat) (a_p0_plans : Nat) (a_p0_coups : Nat) (a_p0_past : Nat) (a_p0_fairDays : Nat) (a_p0_images : Nat) (a_p0_imageHeld : Nat) (a_p0_sheets : Nat) (a_p0_rules_need : Nat) (a_p0_rules_kind : Nat) (a_p0_rules_first : Nat) (a_p0_rules_second : Nat) (a_p0_rules_after : Nat) (a_p0_state_pieces : Nat) (a_p0_state_friends : Nat) (a_p0_state_spoons : Nat) (a_p0_state_eaten : Nat) (a_p0_state_seen : Nat) (i_p0_latestFault : Int32) (i_p0_latestTear : Int32) (i_p0_rules_seats : Int32) (i_p0_rules_stirs : Int32) (i_p0_state_seenDays : Int32) (i_p0_state_bone : Int32) (i_p0_state_king : Int32) (i_p0_state_days : Int32) (x1 : Int32) (r : Int32) (hf : f_X11_rule i_p0_rules_seats i_p0_rules_stirs i_p0_state_bone i_p0_state_king i_p0_state_days x1 = some r) : Met l yX11_rule wsX11_rule rm_X11_rule (pcG D G [.ref a_p0, .int x1] sz [(a_p0, .inr (11, [.ref a_p0_rules, .ref a_p0_state, .ref a_p0_tape, .ref a_p0_reader, .ref a_p0_kitchen, .ref a_p0_luck, .ref a_p0_plans, .ref a_p0_coups, .ref a_p0_past, .ref a_p0_fairDays, .ref a_p0_images, .ref a_p0_imageHeld, .ref a_p0_sheets, .int i_p0_latestFault, .int i_p0_latestTear])), (a_p0_rules, .inr (6, [.int i_p0_rules_seats, .int i_p0_rules_stirs, .ref a_p0_rules_need, .ref a_p0_rules_kind, .ref a_p0_rules_first, .ref a_p0_rules_second, .ref a_p0_rules_after])), (a_p0_state, .inr (8, [.ref a_p0_state_pieces, .ref a_p0_state_friends, .ref a_p0_state_spoons, .ref a_p0_state_eaten, .ref a_p0_state_seen, .int i_p0_state_seenDays, .int i_p0_state_bone, .int i_p0_state_king, .int i_p0_state_days]))]) (qcI D G r [(a_p0, .inr (11, [.ref a_p0_rules, .ref a_p0_state, .ref a_p0_tape, .ref a_p0_reader, .ref a_p0_kitchen, .ref a_p0_luck, .ref a_p0_plans, .ref a_p0_coups, .ref a_p0_past, .ref a_p0_fairDays, .ref a_p0_images, .ref a_p0_imageHeld, .ref a_p0_sheets, .int i_p0_latestFault, .int i_p0_latestTear])), (a_p0_rules, .inr (6, [.int i_p0_rules_seats, .int i_p0_rules_stirs, .ref a_p0_rules_need, .ref a_p0_rules_kind, .ref a_p0_rules_first, .ref a_p0_rules_second, .ref a_p0_rules_after])), (a_p0_state, .inr (8, [.ref a_p0_state_pieces, .ref a_p0_state_friends, .ref a_p0_state_spoons, .ref a_p0_state_eaten, .ref a_p0_state_seen, .int i_p0_state_seenDays, .int i_p0_state_bone, .int i_p0_state_king, .int i_p0_state_days]))] (va_A [(a_p0, .inr (11, [.ref a_p0_rules, .ref a_p0_state, .ref a_p0_tape, .ref a_p0_reader, .ref a_p0_kitchen, .ref a_p0_luck, .ref a_p0_plans, .ref a_p0_coups, .ref a_p0_past, .ref a_p0_fairDays, .ref a_p0_images, .ref a_p0_imageHeld, .ref a_p0_sheets, .int i_p0_latestFault, .int i_p0_latestTear])), (a_p0_rules, .inr (6, [.int i_p0_rules_seats, .int i_p0_rules_stirs, .ref a_p0_rules_need, .ref a_p0_rules_kind, .ref a_p0_rules_first, .ref a_p0_rules_second, .ref a_p0_rules_after])), (a_p0_state, .inr (8, [.ref a_p0_state_pieces, .ref a_p0_state_friends, .ref a_p0_state_spoons, .ref a_p0_state_eaten, .ref a_p0_state_seen, .int i_p0_state_seenDays, .int i_p0_state_bone, .int i_p0_state_king, .int i_p0_state_days]))] sz)) 0 0 (va_A [(a_p0, .inr (11, [.ref a_p0_rules, .ref a_p0_state, .ref a_p0_tape, .ref a_p0_reader, .ref a_p0_kitchen, .ref a_p0_luck, .ref a_p0_plans, .ref a_p0_coups, .ref a_p0_past, .ref a_p0_fairDays, .ref a_p0_images, .ref a_p0_imageHeld, .ref a_p0_sheets, .int i_p0_latestFault, .int i_p0_latestTear])), (a_p0_rules, .inr (6, [.int i_p0_rules_seats, .int i_p0_rules_stirs, .ref a_p0_rules_need, .ref a_p0_rules_kind, .ref a_p0_rules_first, .ref a_p0_rules_second, .ref a_p0_rules_after])), (a_p0_state, .inr (8, [.ref a_p0_state_pieces, .ref a_p0_state_friends, .ref a_p0_state_spoons, .ref a_p0_state_eaten, .ref a_p0_state_seen, .int i_p0_state_seenDays, .int i_p0_state_bone, .int i_p0_state_king, .int i_p0_state_days]))] sz) := by
  refine Met.ofW (cc := cX11_rule) (maxL := 2) (ret := (some .int)) (by decide) rfl ?_
  intro p e s m args below meth c s₁ B hml hv
  obtain ⟨rfl, hsz, hP, hK, hD0⟩ := hv
  have hx := B.exec
  have hb := B.bytes
  have hr := B.returns
  have hts := atoms_spec (ws := wsX11_rule) B.pre
  have hown : s.vm.findClass RX11 = some m.cls := findClass_of_methodNamed B.named
  have hlocks := B.notSynchronized
  subst hsz
  have hD := hD0.self (sz := s.heap.size)
  generalize hAe : va_A [(a_p0, .inr (11, [.ref a_p0_rules, .ref a_p0_state, .ref a_p0_tape, .ref a_p0_reader, .ref a_p0_kitchen, .ref a_p0_luck, .ref a_p0_plans, .ref a_p0_coups, .ref a_p0_past, .ref a_p0_fairDays, .ref a_p0_images, .ref a_p0_imageHeld, .ref a_p0_sheets, .int i_p0_latestFault, .int i_p0_latestTear])), (a_p0_rules, .inr (6, [.int i_p0_rules_seats, .int i_p0_rules_stirs, .ref a_p0_rules_need, .ref a_p0_rules_kind, .ref a_p0_rules_first, .ref a_p0_rules_second, .ref a_p0_rules_after])), (a_p0_state, .inr (8, [.ref a_p0_state_pieces, .ref a_p0_state_friends, .ref a_p0_state_spoons, .ref a_p0_state_eaten, .ref a_p0_state_seen, .int i_p0_state_seenDays, .int i_p0_state_bone, .int i_p0_state_king, .int i_p0_state_days]))] s.heap.size = A at hD ⊢
  have hA : ∀ q : Nat, s.heap.size ≤ q → A q := fun q h => by rw [← hAe]; exact Or.inr h
  clear hAe hD0
  have hS : va_S A s.heap s.heap [] := va_S.rf
  have hl := lv_entry ([.ref a_p0, .int x1]) (n := 2) (Nat.le_of_ble_eq_true rfl)
  rw [lg_entry_eq]
  generalize (lg_sl ([.ref a_p0, .int x1]) ++ List.replicate (2 - (lg_sl ([.ref a_p0, .int x1])).length) Slot.unset).toArray = ls at hl ⊢
  have hl : lv_has ls 2 [(0, .ref a_p0), (1, .int x1)] := hl
  refine W_nameQ (fun Q hQ => ?_)
  obtain ⟨H, hH⟩ : ∃ H, H = s.heap := ⟨_, rfl⟩
  replace hS : va_S A s.heap H [] := by rw [hH]; exact hS
  replace hP : va_P D vwCl [(a_p0, .inr (11, [.ref a_p0_rules, .ref a_p0_state, .ref a_p0_tape, .ref a_p0_reader, .ref a_p0_kitchen, .ref a_p0_luck, .ref a_p0_plans, .ref a_p0_coups, .ref a_p0_past, .ref a_p0_fairDays, .ref a_p0_images, .ref a_p0_imageHeld, .ref a_p0_sheets, .int i_p0_latestFault, .int i_p0_latestTear])), (a_p0_rules, .inr (6, [.int i_p0_rules_seats, .int i_p0_rules_stirs, .ref a_p0_rules_need, .ref a_p0_rules_kind, .ref a_p0_rules_first, .ref a_p0_rules_second, .ref a_p0_rules_after])), (a_p0_state, .inr (8, [.ref a_p0_state_pieces, .ref a_p0_state_friends, .ref a_p0_state_spoons, .ref a_p0_state_eaten, .ref a_p0_state_seen, .int i_p0_state_seenDays, .int i_p0_state_bone, .int i_p0_state_king, .int i_p0_state_days]))] H := by rw [hH]; exact hP
  rw [← hH]
  clear hH
  unfold f_X11_rule at hf
  refine lv_iload_n hx hb dX11_rule_0 rfl (lv_at hl 1 rfl) ?_
  rcases Decidable.em (x1 = (0 : Int32)) with hk1 | hk1
  ·
    replace hf := ite_t hk1 hf
    refine lv_tableIn (tgt := 36) hx hb dX11_rule_1 (by rw [hk1]; decide) (by rw [hk1]; decide) (by rw [hk1]; rfl) (by decide) ?_
    clear hk1
    refine lv_aload_n hx hb dX11_rule_36 rfl (lv_at hl 0 rfl) ?_
    refine va_get (D := D) (ci := 11) (v := .ref a_p0_rules) (C := RX11) (T := TX11) (N := 15) hx hb hts inX11_rule_X11 hown hK hP 0 rfl rfl 0 (by decide) (hts _ mwX11_rule_1) (fun _ h9 => h9) rfl dX11_rule_37 ?_
    refine va_get (D := D) (ci := 6) (v := .int i_p0_rules_seats) (C := RX6) (T := TX6) (N := 7) hx hb hts inX11_rule_X6 hown hK hP 1 rfl rfl 0 (by decide) (hts _ mwX11_rule_3) (fun _ h9 => h9) rfl dX11_rule_40 ?_
    obtain rfl := ou1 hf
    rw [hQ]
    exact W.iret hx hb hr (fun t ht hW => ⟨⟨_, (), rfl, rfl, by rw [ht]; exact hP, va_K.moved hW.alike hK, hD⟩, hS.F ht⟩) hS.2.2 dX11_rule_43
  replace hf := ite_f hk1 hf
  rcases Decidable.em (x1 = (1 : Int32)) with hk2 | hk2
  ·
    replace hf := ite_t hk2 hf
    refine lv_tableIn (tgt := 44) hx hb dX11_rule_1 (by rw [hk2]; decide) (by rw [hk2]; decide) (by rw [hk2]; rfl) (by decide) ?_
    clear hk2 hk1
    refine lv_aload_n hx hb dX11_rule_44 rfl (lv_at hl 0 rfl) ?_
    refine va_get (D := D) (ci := 11) (v := .ref a_p0_rules) (C := RX11) (T := TX11) (N := 15) hx hb hts inX11_rule_X11 hown hK hP 0 rfl rfl 0 (by decide) (hts _ mwX11_rule_1) (fun _ h9 => h9) rfl dX11_rule_45 ?_
    refine va_get (D := D) (ci := 6) (v := .int i_p0_rules_stirs) (C := RX6) (T := TX6) (N := 7) hx hb hts inX11_rule_X6 hown hK hP 1 rfl rfl 1 (by decide) (hts _ mwX11_rule_4) (fun _ h9 => h9) rfl dX11_rule_48 ?_
    obtain rfl := ou1 hf
    rw [hQ]
    exact W.iret hx hb hr (fun t ht hW => ⟨⟨_, (), rfl, rfl, by rw [ht]; exact hP, va_K.moved hW.alike hK, hD⟩, hS.F ht⟩) hS.2.2 dX11_rule_51
  replace hf := ite_f hk2 hf
  rcases Decidable.em (x1 = (2 : Int32)) with hk3 | hk3
  ·
    replace hf := ite_t hk3 hf
    refine lv_tableIn (tgt := 52) hx hb dX11_rule_1 (by rw [hk3]; decide) (by rw [hk3]; decide) (by rw [hk3]; rfl) (by decide) ?_
    clear hk3 hk1 hk2
    refine lv_aload_n hx hb dX11_rule_52 rfl (lv_at hl 0 rfl) ?_
    refine va_get (D := D) (ci := 11) (v := .ref a_p0_state) (C := RX11) (T := TX11) (N := 15) hx hb hts inX11_rule_X11 hown hK hP 0 rfl rfl 1 (by decide) (hts _ mwX11_rule_5) (fun _ h9 => h9) rfl dX11_rule_53 ?_
    refine va_get (D := D) (ci := 8) (v := .int i_p0_state_king) (C := RX8) (T := TX8) (N := 9) hx hb hts inX11_rule_X8 hown hK hP 2 rfl rfl 7 (by decide) (hts _ mwX11_rule_7) (fun _ h9 => h9) rfl dX11_rule_56 ?_
    obtain rfl := ou1 hf
    rw [hQ]
    exact W.iret hx hb hr (fun t ht hW => ⟨⟨_, (), rfl, rfl, by rw [ht]; exact hP, va_K.moved hW.alike hK, hD⟩, hS.F ht⟩) hS.2.2 dX11_rule_59
  replace hf := ite_f hk3 hf
  rcases Decidable.em (x1 = (3 : Int32)) with hk4 | hk4
  ·
    replace hf := ite_t hk4 hf
    refine lv_tableIn (tgt := 60) hx hb dX11_rule_1 (by rw [hk4]; decide) (by rw [hk4]; decide) (by rw [hk4]; rfl) (by decide) ?_
    clear hk4 hk1 hk2 hk3
    refine lv_aload_n hx hb dX11_rule_60 rfl (lv_at hl 0 rfl) ?_
    refine va_get (D := D) (ci := 11) (v := .ref a_p0_state) (C := RX11) (T := TX11) (N := 15) hx hb hts inX11_rule_X11 hown hK hP 0 rfl rfl 1 (by decide) (hts _ mwX11_rule_5) (fun _ h9 => h9) rfl dX11_rule_61 ?_
    refine va_get (D := D) (ci := 8) (v := .int i_p0_state_days) (C := RX8) (T := TX8) (N := 9) hx hb hts inX11_rule_X8 hown hK hP 2 rfl rfl 8 (by decide) (hts _ mwX11_rule_8) (fun _ h9 => h9) rfl dX11_rule_64 ?_
    obtain rfl := ou1 hf
    rw [hQ]
    exact W.iret hx hb hr (fun t ht hW => ⟨⟨_, (), rfl, rfl, by rw [ht]; exact hP, va_K.moved hW.alike hK, hD⟩, hS.F ht⟩) hS.2.2 dX11_rule_67
  replace hf := ite_f hk4 hf
  rcases Decidable.em (x1 = (4 : Int32)) with hk5 | hk5
  ·
    replace hf := ite_t hk5 hf
    refine lv_tableIn (tgt := 68) hx hb dX11_rule_1 (by rw [hk5]; decide) (by rw [hk5]; decide) (by rw [hk5]; rfl) (by decide) ?_
    clear hk5 hk1 hk2 hk3 hk4
    refine lv_aload_n hx hb dX11_rule_68 rfl (lv_at hl 0 rfl) ?_
    refine va_get (D := D) (ci := 11) (v := .ref a_p0_state) (C := RX11) (T := TX11) (N := 15) hx hb hts inX11_rule_X11 hown hK hP 0 rfl rfl 1 (by decide) (hts _ mwX11_rule_5) (fun _ h9 => h9) rfl dX11_rule_69 ?_
    refine va_get (D := D) (ci := 8) (v := .int i_p0_state_bone) (C := RX8) (T := TX8) (N := 9) hx hb hts inX11_rule_X8 hown hK hP 2 rfl rfl 6 (by decide) (hts _ mwX11_rule_9) (fun _ h9 => h9) rfl dX11_rule_72 ?_
    obtain rfl := ou1 hf
    rw [hQ]
    exact W.iret hx hb hr (fun t ht hW => ⟨⟨_, (), rfl, rfl, by rw [ht]; exact hP, va_K.moved hW.alike hK, hD⟩, hS.F ht⟩) hS.2.2 dX11_rule_75
  replace hf := ite_f hk5 hf
  have thk1 := tsw_ne hk1
  have thk2 := tsw_ne hk2
  have thk3 := tsw_ne hk3
  have thk4 := tsw_ne hk4
  have thk5 := tsw_ne hk5
  rw [show ((0 : Int32)).toInt = 0 from by decide] at thk1
  rw [show ((1 : Int32)).toInt = 1 from by decide] at thk2
  rw [show ((2 : Int32)).toInt = 2 from by decide] at thk3
  rw [show ((3 : Int32)).toInt = 3 from by decide] at thk4
  rw [show ((4 : Int32)).toInt = 4 from by decide] at thk5
  refine lv_tableOut (tgt := 76) hx hb dX11_rule_1 (by omega) (by decide) ?_
  clear thk1 thk2 thk3 thk4 thk5 hk1 hk2 hk3 hk4 hk5
  refine lv_iconst (v := (-1 : Int32)) hx hb dX11_rule_76 (by decide) ?_
  obtain rfl := ou1 hf
  rw [hQ]
  exact W.iret hx hb hr (fun t ht hW => ⟨⟨_, (), rfl, rfl, by rw [ht]; exact hP, va_K.moved hW.alike hK, hD⟩, hS.F ht⟩) hS.2.2 dX11_rule_77

noncomputable def f_X11_pot (i_p0_rules_seats : Int32) (v_p0_state_pieces : (Nat → Int32)) (x1 : Int32) : Option (Int32) := (bd1 (f_X6_hasSeat i_p0_rules_seats x1) (fun (z1 : Int32) => (if z1 = 0 then (some (-1 : Int32)) else (ck (ixB x1 7) (some (v_p0_state_pieces (x1).toNatClampNeg))))))
abbrev rm_X11_pot : Room := { frames := 1, cells := 0, slots := 0, locals := 21 }
theorem inX11_pot_X11 : ∀ w ∈ wsX110, w ∈ wsX11_pot := by decide +kernel
theorem mwX11_pot_1 : Cond.fieldLink RX11 10 "LadleKings" "rules" "LLadleKings$Rules;" ∈ wsX11_pot := by decide +kernel
theorem mwX11_pot_2 : Cond.fieldLink RX11 19 "LadleKings" "state" "LLadleKings$State;" ∈ wsX11_pot := by decide +kernel
theorem inX11_pot_X8 : ∀ w ∈ wsX80, w ∈ wsX11_pot := by decide +kernel
theorem mwX11_pot_4 : Cond.fieldLink RX11 149 "LadleKings$State" "pieces" "[I" ∈ wsX11_pot := by decide +kernel
set_option maxHeartbeats 8000000 in
set_option maxRecDepth 100000 in
theorem c_X11_pot (l : Launch) (D : va_G) (G : Nat → ClassId) (sz : Nat) (a_p0 : Nat) (a_p0_rules : Nat) (a_p0_state : Nat) (a_p0_tape : Nat) (a_p0_reader : Nat) (a_p0_kitchen : Nat) (a_p0_luck : Nat) (a_p0_plans : Nat) (a_p0_coups : Nat) (a_p0_past : Nat) (a_p0_fairDays : Nat) (a_p0_images : Nat) (a_p0_imageHeld : Nat) (a_p0_sheets : Nat) (a_p0_rules_need : Nat) (a_p0_rules_kind : Nat) (a_p0_rules_first : Nat) (a_p0_rules_second : Nat) (a_p0_rules_after : Nat) (a_p0_state_pieces : Nat) (a_p0_state_friends : Nat) (a_p0_state_spoons : Nat) (a_p0_state_eaten : Nat) (a_p0_state_seen : Nat) (i_p0_latestFault : Int32) (i_p0_latestTear : Int32) (i_p0_rules_seats : Int32) (i_p0_rules_stirs : Int32) (i_p0_state_seenDays : Int32) (i_p0_state_bone : Int32) (i_p0_state_king : Int32) (i_p0_state_days : Int32) (v_p0_state_pieces : (Nat → Int32)) (x1 : Int32) (r : Int32) (hf : f_X11_pot i_p0_rules_seats v_p0_state_pieces x1 = some r) : Met l yX11_pot wsX11_pot rm_X11_pot (pcG D G [.ref a_p0, .int x1] sz [(a_p0, .inr (11, [.ref a_p0_rules, .ref a_p0_state, .ref a_p0_tape, .ref a_p0_reader, .ref a_p0_kitchen, .ref a_p0_luck, .ref a_p0_plans, .ref a_p0_coups, .ref a_p0_past, .ref a_p0_fairDays, .ref a_p0_images, .ref a_p0_imageHeld, .ref a_p0_sheets, .int i_p0_latestFault, .int i_p0_latestTear])), (a_p0_rules, .inr (6, [.int i_p0_rules_seats, .int i_p0_rules_stirs, .ref a_p0_rules_need, .ref a_p0_rules_kind, .ref a_p0_rules_first, .ref a_p0_rules_second, .ref a_p0_rules_after])), (a_p0_state, .inr (8, [.ref a_p0_state_pieces, .ref a_p0_state_friends, .ref a_p0_state_spoons, .ref a_p0_state_eaten, .ref a_p0_state_seen, .int i_p0_state_seenDays, .int i_p0_state_bone, .int i_p0_state_king, .int i_p0_state_days])), (a_p0_state_pieces, .inl (G 1, 7, .inl v_p0_state_pieces))]) (qcI D G r [(a_p0, .inr (11, [.ref a_p0_rules, .ref a_p0_state, .ref a_p0_tape, .ref a_p0_reader, .ref a_p0_kitchen, .ref a_p0_luck, .ref a_p0_plans, .ref a_p0_coups, .ref a_p0_past, .ref a_p0_fairDays, .ref a_p0_images, .ref a_p0_imageHeld, .ref a_p0_sheets, .int i_p0_latestFault, .int i_p0_latestTear])), (a_p0_rules, .inr (6, [.int i_p0_rules_seats, .int i_p0_rules_stirs, .ref a_p0_rules_need, .ref a_p0_rules_kind, .ref a_p0_rules_first, .ref a_p0_rules_second, .ref a_p0_rules_after])), (a_p0_state, .inr (8, [.ref a_p0_state_pieces, .ref a_p0_state_friends, .ref a_p0_state_spoons, .ref a_p0_state_eaten, .ref a_p0_state_seen, .int i_p0_state_seenDays, .int i_p0_state_bone, .int i_p0_state_king, .int i_p0_state_days])), (a_p0_state_pieces, .inl (G 1, 7, .inl v_p0_state_pieces))] (va_A [(a_p0, .inr (11, [.ref a_p0_rules, .ref a_p0_state, .ref a_p0_tape, .ref a_p0_reader, .ref a_p0_kitchen, .ref a_p0_luck, .ref a_p0_plans, .ref a_p0_coups, .ref a_p0_past, .ref a_p0_fairDays, .ref a_p0_images, .ref a_p0_imageHeld, .ref a_p0_sheets, .int i_p0_latestFault, .int i_p0_latestTear])), (a_p0_rules, .inr (6, [.int i_p0_rules_seats, .int i_p0_rules_stirs, .ref a_p0_rules_need, .ref a_p0_rules_kind, .ref a_p0_rules_first, .ref a_p0_rules_second, .ref a_p0_rules_after])), (a_p0_state, .inr (8, [.ref a_p0_state_pieces, .ref a_p0_state_friends, .ref a_p0_state_spoons, .ref a_p0_state_eaten, .ref a_p0_state_seen, .int i_p0_state_seenDays, .int i_p0_state_bone, .int i_p0_state_king, .int i_p0_state_days])), (a_p0_state_pieces, .inl (G 1, 7, .inl v_p0_state_pieces))] sz)) 0 0 (va_A [(a_p0, .inr (11, [.ref a_p0_rules, .ref a_p0_state, .ref a_p0_tape, .ref a_p0_reader, .ref a_p0_kitchen, .ref a_p0_luck, .ref a_p0_plans, .ref a_p0_coups, .ref a_p0_past, .ref a_p0_fairDays, .ref a_p0_images, .ref a_p0_imageHeld, .ref a_p0_sheets, .int i_p0_latestFault, .int i_p0_latestTear])), (a_p0_rules, .inr (6, [.int i_p0_rules_seats, .int i_p0_rules_stirs, .ref a_p0_rules_need, .ref a_p0_rules_kind, .ref a_p0_rules_first, .ref a_p0_rules_second, .ref a_p0_rules_after])), (a_p0_state, .inr (8, [.ref a_p0_state_pieces, .ref a_p0_state_friends, .ref a_p0_state_spoons, .ref a_p0_state_eaten, .ref a_p0_state_seen, .int i_p0_state_seenDays, .int i_p0_state_bone, .int i_p0_state_king, .int i_p0_state_days])), (a_p0_state_pieces, .inl (G 1, 7, .inl v_p0_state_pieces))] sz) := by
  refine Met.ofW (cc := cX11_pot) (maxL := 2) (ret := (some .int)) (by decide) rfl ?_
  intro p e s m args below meth c s₁ B hml hv
  obtain ⟨rfl, hsz, hP, hK, hD0⟩ := hv
  have hx := B.exec
  have hb := B.bytes
  have hr := B.returns
  have hts := atoms_spec (ws := wsX11_pot) B.pre
  have hown : s.vm.findClass RX11 = some m.cls := findClass_of_methodNamed B.named
  have hlocks := B.notSynchronized
  subst hsz
  have hD := hD0.self (sz := s.heap.size)
  generalize hAe : va_A [(a_p0, .inr (11, [.ref a_p0_rules, .ref a_p0_state, .ref a_p0_tape, .ref a_p0_reader, .ref a_p0_kitchen, .ref a_p0_luck, .ref a_p0_plans, .ref a_p0_coups, .ref a_p0_past, .ref a_p0_fairDays, .ref a_p0_images, .ref a_p0_imageHeld, .ref a_p0_sheets, .int i_p0_latestFault, .int i_p0_latestTear])), (a_p0_rules, .inr (6, [.int i_p0_rules_seats, .int i_p0_rules_stirs, .ref a_p0_rules_need, .ref a_p0_rules_kind, .ref a_p0_rules_first, .ref a_p0_rules_second, .ref a_p0_rules_after])), (a_p0_state, .inr (8, [.ref a_p0_state_pieces, .ref a_p0_state_friends, .ref a_p0_state_spoons, .ref a_p0_state_eaten, .ref a_p0_state_seen, .int i_p0_state_seenDays, .int i_p0_state_bone, .int i_p0_state_king, .int i_p0_state_days])), (a_p0_state_pieces, .inl (G 1, 7, .inl v_p0_state_pieces))] s.heap.size = A at hD ⊢
  have hA : ∀ q : Nat, s.heap.size ≤ q → A q := fun q h => by rw [← hAe]; exact Or.inr h
  clear hAe hD0
  have hS : va_S A s.heap s.heap [] := va_S.rf
  have hl := lv_entry ([.ref a_p0, .int x1]) (n := 2) (Nat.le_of_ble_eq_true rfl)
  rw [lg_entry_eq]
  generalize (lg_sl ([.ref a_p0, .int x1]) ++ List.replicate (2 - (lg_sl ([.ref a_p0, .int x1])).length) Slot.unset).toArray = ls at hl ⊢
  have hl : lv_has ls 2 [(0, .ref a_p0), (1, .int x1)] := hl
  refine W_nameQ (fun Q hQ => ?_)
  obtain ⟨H, hH⟩ : ∃ H, H = s.heap := ⟨_, rfl⟩
  replace hS : va_S A s.heap H [] := by rw [hH]; exact hS
  replace hP : va_P D vwCl [(a_p0, .inr (11, [.ref a_p0_rules, .ref a_p0_state, .ref a_p0_tape, .ref a_p0_reader, .ref a_p0_kitchen, .ref a_p0_luck, .ref a_p0_plans, .ref a_p0_coups, .ref a_p0_past, .ref a_p0_fairDays, .ref a_p0_images, .ref a_p0_imageHeld, .ref a_p0_sheets, .int i_p0_latestFault, .int i_p0_latestTear])), (a_p0_rules, .inr (6, [.int i_p0_rules_seats, .int i_p0_rules_stirs, .ref a_p0_rules_need, .ref a_p0_rules_kind, .ref a_p0_rules_first, .ref a_p0_rules_second, .ref a_p0_rules_after])), (a_p0_state, .inr (8, [.ref a_p0_state_pieces, .ref a_p0_state_friends, .ref a_p0_state_spoons, .ref a_p0_state_eaten, .ref a_p0_state_seen, .int i_p0_state_seenDays, .int i_p0_state_bone, .int i_p0_state_king, .int i_p0_state_days])), (a_p0_state_pieces, .inl (G 1, 7, .inl v_p0_state_pieces))] H := by rw [hH]; exact hP
  rw [← hH]
  clear hH
  unfold f_X11_pot at hf
  refine lv_aload_n hx hb dX11_pot_0 rfl (lv_at hl 0 rfl) ?_
  refine va_get (D := D) (ci := 11) (v := .ref a_p0_rules) (C := RX11) (T := TX11) (N := 15) hx hb hts inX11_pot_X11 hown hK hP 0 rfl rfl 0 (by decide) (hts _ mwX11_pot_1) (fun _ h9 => h9) rfl dX11_pot_1 ?_
  refine lv_iload_n hx hb dX11_pot_4 rfl (lv_at hl 1 rfl) ?_
  have hq := bd1_s hf
  clear hf
  obtain ⟨z1, hcall, hf⟩ := hq
  refine gcI (ws' := [(a_p0, .inr (11, [.ref a_p0_rules, .ref a_p0_state, .ref a_p0_tape, .ref a_p0_reader, .ref a_p0_kitchen, .ref a_p0_luck, .ref a_p0_plans, .ref a_p0_coups, .ref a_p0_past, .ref a_p0_fairDays, .ref a_p0_images, .ref a_p0_imageHeld, .ref a_p0_sheets, .int i_p0_latestFault, .int i_p0_latestTear])), (a_p0_rules, .inr (6, [.int i_p0_rules_seats, .int i_p0_rules_stirs, .ref a_p0_rules_need, .ref a_p0_rules_kind, .ref a_p0_rules_first, .ref a_p0_rules_second, .ref a_p0_rules_after])), (a_p0_state, .inr (8, [.ref a_p0_state_pieces, .ref a_p0_state_friends, .ref a_p0_state_spoons, .ref a_p0_state_eaten, .ref a_p0_state_seen, .int i_p0_state_seenDays, .int i_p0_state_bone, .int i_p0_state_king, .int i_p0_state_days])), (a_p0_state_pieces, .inl (G 1, 7, .inl v_p0_state_pieces))]) (va_runV (As := [.int x1]) (rest := []) ⟨hx, hb, hml, hown, hts⟩ (c_X6_hasSeat (l := l) (D := D) (G := G) (sz := H.size) (a_p0 := a_p0_rules) (a_p0_need := a_p0_rules_need) (a_p0_kind := a_p0_rules_kind) (a_p0_first := a_p0_rules_first) (a_p0_second := a_p0_rules_second) (a_p0_after := a_p0_rules_after) (i_p0_seats := i_p0_rules_seats) (i_p0_stirs := i_p0_rules_stirs) (x1 := x1) (r := z1) (hf := hcall)) (cwV 1 hts gX11_pot_X6_hasSeat rfl rfl rfl (by decide +kernel) ⟨Nat.le_of_ble_eq_true rfl, Nat.le_of_ble_eq_true rfl⟩) (preG_V (ci := 6) (hP.sub [1] rfl) (hD.sub [1] rfl rfl) hK rfl rfl) rfl rfl hl.1 rfl (lv_room (Nat.le_of_ble_eq_true rfl)) dX11_pot_5 ⟨Nat.le_of_ble_eq_true rfl, Nat.le_of_ble_eq_true rfl⟩) hP hD hS hA [1] [0, 2, 3] [0, 3, 1, 2] rfl rfl rfl (by decide) rfl rfl rfl (fun H locs hP hD hS => ?_)
  clear hcall
  refine lv_if_eq (tgt := 23) hx hb dX11_pot_8 (by decide) (fun cc => ?_) (fun cc => ?_)
  ·
    replace hf := ite_t cc hf
    clear cc
    refine lv_iconst (v := (-1 : Int32)) hx hb dX11_pot_23 (by decide) ?_
    obtain rfl := ou1 hf
    rw [hQ]
    exact W.iret hx hb hr (fun t ht hW => ⟨⟨_, (), rfl, rfl, by rw [ht]; exact hP, va_K.moved hW.alike hK, hD⟩, hS.F ht⟩) hS.2.2 dX11_pot_24
  ·
    replace hf := ite_f cc hf
    clear cc
    refine lv_aload_n hx hb dX11_pot_11 rfl (lv_at hl 0 rfl) ?_
    refine va_get (D := D) (ci := 11) (v := .ref a_p0_state) (C := RX11) (T := TX11) (N := 15) hx hb hts inX11_pot_X11 hown hK hP 0 rfl rfl 1 (by decide) (hts _ mwX11_pot_2) (fun _ h9 => h9) rfl dX11_pot_12 ?_
    refine va_get (D := D) (ci := 8) (v := .ref a_p0_state_pieces) (C := RX8) (T := TX8) (N := 9) hx hb hts inX11_pot_X8 hown hK hP 2 rfl rfl 0 (by decide) (hts _ mwX11_pot_4) (fun _ h9 => h9) rfl dX11_pot_15 ?_
    refine lv_iload_n hx hb dX11_pot_18 rfl (lv_at hl 1 rfl) ?_
    have hc := ck_c hf
    replace hf := ck_r hf
    refine va_iald hx hb hK hP 3 1 rfl rfl (ixB_in hc) dX11_pot_19 ?_
    clear hc
    refine lv_goto (tgt := 24) hx hb dX11_pot_20 (by decide) ?_
    obtain rfl := ou1 hf
    rw [hQ]
    exact W.iret hx hb hr (fun t ht hW => ⟨⟨_, (), rfl, rfl, by rw [ht]; exact hP, va_K.moved hW.alike hK, hD⟩, hS.F ht⟩) hS.2.2 dX11_pot_24

noncomputable def f_X11_one (i_p0_rules_seats : Int32) (v_p0_rules_need : (Nat → Int32)) (v_p0_state_friends : (Nat → Int32)) (v_p0_state_spoons : (Nat → Int32)) (v_p0_state_eaten : (Nat → Int32)) (x1 : Int32) (x2 : Int32) : Option (Int32) := (bd1 (f_X6_hasSeat i_p0_rules_seats x1) (fun (z1 : Int32) => (if z1 = 0 then (some (-1 : Int32)) else (if x2 = (0 : Int32) then (ck (ixB x1 7) (some (v_p0_state_friends (x1).toNatClampNeg))) else (if x2 = (1 : Int32) then (ck (ixB x1 7) (some (v_p0_state_spoons (x1).toNatClampNeg))) else (if x2 = (2 : Int32) then (ck (ixB x1 7) (some (v_p0_rules_need (x1).toNatClampNeg))) else (if x2 = (3 : Int32) then (ck (ixB x1 7) (some (v_p0_state_eaten (x1).toNatClampNeg))) else (some (-1 : Int32)))))))))
abbrev rm_X11_one : Room := { frames := 1, cells := 0, slots := 0, locals := 21 }
theorem inX11_one_X11 : ∀ w ∈ wsX110, w ∈ wsX11_one := by decide +kernel
theorem mwX11_one_1 : Cond.fieldLink RX11 10 "LadleKings" "rules" "LLadleKings$Rules;" ∈ wsX11_one := by decide +kernel
theorem mwX11_one_2 : Cond.fieldLink RX11 19 "LadleKings" "state" "LLadleKings$State;" ∈ wsX11_one := by decide +kernel
theorem inX11_one_X8 : ∀ w ∈ wsX80, w ∈ wsX11_one := by decide +kernel
theorem mwX11_one_4 : Cond.fieldLink RX11 153 "LadleKings$State" "friends" "[I" ∈ wsX11_one := by decide +kernel
theorem mwX11_one_5 : Cond.fieldLink RX11 156 "LadleKings$State" "spoons" "[I" ∈ wsX11_one := by decide +kernel
theorem inX11_one_X6 : ∀ w ∈ wsX60, w ∈ wsX11_one := by decide +kernel
theorem mwX11_one_7 : Cond.fieldLink RX11 159 "LadleKings$Rules" "need" "[I" ∈ wsX11_one := by decide +kernel
theorem mwX11_one_8 : Cond.fieldLink RX11 162 "LadleKings$State" "eaten" "[I" ∈ wsX11_one := by decide +kernel
set_option maxHeartbeats 8000000 in
set_option maxRecDepth 100000 in
theorem c_X11_one (l : Launch) (D : va_G) (G : Nat → ClassId) (sz : Nat) (a_p0 : Nat) (a_p0_rules : Nat) (a_p0_state : Nat) (a_p0_tape : Nat) (a_p0_reader : Nat) (a_p0_kitchen : Nat) (a_p0_luck : Nat) (a_p0_plans : Nat) (a_p0_coups : Nat) (a_p0_past : Nat) (a_p0_fairDays : Nat) (a_p0_images : Nat) (a_p0_imageHeld : Nat) (a_p0_sheets : Nat) (a_p0_rules_need : Nat) (a_p0_rules_kind : Nat) (a_p0_rules_first : Nat) (a_p0_rules_second : Nat) (a_p0_rules_after : Nat) (a_p0_state_pieces : Nat) (a_p0_state_friends : Nat) (a_p0_state_spoons : Nat) (a_p0_state_eaten : Nat) (a_p0_state_seen : Nat) (i_p0_latestFault : Int32) (i_p0_latestTear : Int32) (i_p0_rules_seats : Int32) (i_p0_rules_stirs : Int32) (v_p0_rules_need : (Nat → Int32)) (i_p0_state_seenDays : Int32) (i_p0_state_bone : Int32) (i_p0_state_king : Int32) (i_p0_state_days : Int32) (v_p0_state_friends : (Nat → Int32)) (v_p0_state_spoons : (Nat → Int32)) (v_p0_state_eaten : (Nat → Int32)) (x1 : Int32) (x2 : Int32) (r : Int32) (hf : f_X11_one i_p0_rules_seats v_p0_rules_need v_p0_state_friends v_p0_state_spoons v_p0_state_eaten x1 x2 = some r) : Met l yX11_one wsX11_one rm_X11_one (pcG D G [.ref a_p0, .int x1, .int x2] sz [(a_p0, .inr (11, [.ref a_p0_rules, .ref a_p0_state, .ref a_p0_tape, .ref a_p0_reader, .ref a_p0_kitchen, .ref a_p0_luck, .ref a_p0_plans, .ref a_p0_coups, .ref a_p0_past, .ref a_p0_fairDays, .ref a_p0_images, .ref a_p0_imageHeld, .ref a_p0_sheets, .int i_p0_latestFault, .int i_p0_latestTear])), (a_p0_rules, .inr (6, [.int i_p0_rules_seats, .int i_p0_rules_stirs, .ref a_p0_rules_need, .ref a_p0_rules_kind, .ref a_p0_rules_first, .ref a_p0_rules_second, .ref a_p0_rules_after])), (a_p0_rules_need, .inl (G 1, 7, .inl v_p0_rules_need)), (a_p0_state, .inr (8, [.ref a_p0_state_pieces, .ref a_p0_state_friends, .ref a_p0_state_spoons, .ref a_p0_state_eaten, .ref a_p0_state_seen, .int i_p0_state_seenDays, .int i_p0_state_bone, .int i_p0_state_king, .int i_p0_state_days])), (a_p0_state_friends, .inl (G 1, 7, .inl v_p0_state_friends)), (a_p0_state_spoons, .inl (G 1, 7, .inl v_p0_state_spoons)), (a_p0_state_eaten, .inl (G 1, 7, .inl v_p0_state_eaten))]) (qcI D G r [(a_p0, .inr (11, [.ref a_p0_rules, .ref a_p0_state, .ref a_p0_tape, .ref a_p0_reader, .ref a_p0_kitchen, .ref a_p0_luck, .ref a_p0_plans, .ref a_p0_coups, .ref a_p0_past, .ref a_p0_fairDays, .ref a_p0_images, .ref a_p0_imageHeld, .ref a_p0_sheets, .int i_p0_latestFault, .int i_p0_latestTear])), (a_p0_rules, .inr (6, [.int i_p0_rules_seats, .int i_p0_rules_stirs, .ref a_p0_rules_need, .ref a_p0_rules_kind, .ref a_p0_rules_first, .ref a_p0_rules_second, .ref a_p0_rules_after])), (a_p0_rules_need, .inl (G 1, 7, .inl v_p0_rules_need)), (a_p0_state, .inr (8, [.ref a_p0_state_pieces, .ref a_p0_state_friends, .ref a_p0_state_spoons, .ref a_p0_state_eaten, .ref a_p0_state_seen, .int i_p0_state_seenDays, .int i_p0_state_bone, .int i_p0_state_king, .int i_p0_state_days])), (a_p0_state_friends, .inl (G 1, 7, .inl v_p0_state_friends)), (a_p0_state_spoons, .inl (G 1, 7, .inl v_p0_state_spoons)), (a_p0_state_eaten, .inl (G 1, 7, .inl v_p0_state_eaten))] (va_A [(a_p0, .inr (11, [.ref a_p0_rules, .ref a_p0_state, .ref a_p0_tape, .ref a_p0_reader, .ref a_p0_kitchen, .ref a_p0_luck, .ref a_p0_plans, .ref a_p0_coups, .ref a_p0_past, .ref a_p0_fairDays, .ref a_p0_images, .ref a_p0_imageHeld, .ref a_p0_sheets, .int i_p0_latestFault, .int i_p0_latestTear])), (a_p0_rules, .inr (6, [.int i_p0_rules_seats, .int i_p0_rules_stirs, .ref a_p0_rules_need, .ref a_p0_rules_kind, .ref a_p0_rules_first, .ref a_p0_rules_second, .ref a_p0_rules_after])), (a_p0_rules_need, .inl (G 1, 7, .inl v_p0_rules_need)), (a_p0_state, .inr (8, [.ref a_p0_state_pieces, .ref a_p0_state_friends, .ref a_p0_state_spoons, .ref a_p0_state_eaten, .ref a_p0_state_seen, .int i_p0_state_seenDays, .int i_p0_state_bone, .int i_p0_state_king, .int i_p0_state_days])), (a_p0_state_friends, .inl (G 1, 7, .inl v_p0_state_friends)), (a_p0_state_spoons, .inl (G 1, 7, .inl v_p0_state_spoons)), (a_p0_state_eaten, .inl (G 1, 7, .inl v_p0_state_eaten))] sz)) 0 0 (va_A [(a_p0, .inr (11, [.ref a_p0_rules, .ref a_p0_state, .ref a_p0_tape, .ref a_p0_reader, .ref a_p0_kitchen, .ref a_p0_luck, .ref a_p0_plans, .ref a_p0_coups, .ref a_p0_past, .ref a_p0_fairDays, .ref a_p0_images, .ref a_p0_imageHeld, .ref a_p0_sheets, .int i_p0_latestFault, .int i_p0_latestTear])), (a_p0_rules, .inr (6, [.int i_p0_rules_seats, .int i_p0_rules_stirs, .ref a_p0_rules_need, .ref a_p0_rules_kind, .ref a_p0_rules_first, .ref a_p0_rules_second, .ref a_p0_rules_after])), (a_p0_rules_need, .inl (G 1, 7, .inl v_p0_rules_need)), (a_p0_state, .inr (8, [.ref a_p0_state_pieces, .ref a_p0_state_friends, .ref a_p0_state_spoons, .ref a_p0_state_eaten, .ref a_p0_state_seen, .int i_p0_state_seenDays, .int i_p0_state_bone, .int i_p0_state_king, .int i_p0_state_days])), (a_p0_state_friends, .inl (G 1, 7, .inl v_p0_state_friends)), (a_p0_state_spoons, .inl (G 1, 7, .inl v_p0_state_spoons)), (a_p0_state_eaten, .inl (G 1, 7, .inl v_p0_state_eaten))] sz) := by
  refine Met.ofW (cc := cX11_one) (maxL := 3) (ret := (some .int)) (by decide) rfl ?_
  intro p e s m args below meth c s₁ B hml hv
  obtain ⟨rfl, hsz, hP, hK, hD0⟩ := hv
  have hx := B.exec
  have hb := B.bytes
  have hr := B.returns
  have hts := atoms_spec (ws := wsX11_one) B.pre
  have hown : s.vm.findClass RX11 = some m.cls := findClass_of_methodNamed B.named
  have hlocks := B.notSynchronized
  subst hsz
  have hD := hD0.self (sz := s.heap.size)
  generalize hAe : va_A [(a_p0, .inr (11, [.ref a_p0_rules, .ref a_p0_state, .ref a_p0_tape, .ref a_p0_reader, .ref a_p0_kitchen, .ref a_p0_luck, .ref a_p0_plans, .ref a_p0_coups, .ref a_p0_past, .ref a_p0_fairDays, .ref a_p0_images, .ref a_p0_imageHeld, .ref a_p0_sheets, .int i_p0_latestFault, .int i_p0_latestTear])), (a_p0_rules, .inr (6, [.int i_p0_rules_seats, .int i_p0_rules_stirs, .ref a_p0_rules_need, .ref a_p0_rules_kind, .ref a_p0_rules_first, .ref a_p0_rules_second, .ref a_p0_rules_after])), (a_p0_rules_need, .inl (G 1, 7, .inl v_p0_rules_need)), (a_p0_state, .inr (8, [.ref a_p0_state_pieces, .ref a_p0_state_friends, .ref a_p0_state_spoons, .ref a_p0_state_eaten, .ref a_p0_state_seen, .int i_p0_state_seenDays, .int i_p0_state_bone, .int i_p0_state_king, .int i_p0_state_days])), (a_p0_state_friends, .inl (G 1, 7, .inl v_p0_state_friends)), (a_p0_state_spoons, .inl (G 1, 7, .inl v_p0_state_spoons)), (a_p0_state_eaten, .inl (G 1, 7, .inl v_p0_state_eaten))] s.heap.size = A at hD ⊢
  have hA : ∀ q : Nat, s.heap.size ≤ q → A q := fun q h => by rw [← hAe]; exact Or.inr h
  clear hAe hD0
  have hS : va_S A s.heap s.heap [] := va_S.rf
  have hl := lv_entry ([.ref a_p0, .int x1, .int x2]) (n := 3) (Nat.le_of_ble_eq_true rfl)
  rw [lg_entry_eq]
  generalize (lg_sl ([.ref a_p0, .int x1, .int x2]) ++ List.replicate (3 - (lg_sl ([.ref a_p0, .int x1, .int x2])).length) Slot.unset).toArray = ls at hl ⊢
  have hl : lv_has ls 3 [(0, .ref a_p0), (1, .int x1), (2, .int x2)] := hl
  refine W_nameQ (fun Q hQ => ?_)
  obtain ⟨H, hH⟩ : ∃ H, H = s.heap := ⟨_, rfl⟩
  replace hS : va_S A s.heap H [] := by rw [hH]; exact hS
  replace hP : va_P D vwCl [(a_p0, .inr (11, [.ref a_p0_rules, .ref a_p0_state, .ref a_p0_tape, .ref a_p0_reader, .ref a_p0_kitchen, .ref a_p0_luck, .ref a_p0_plans, .ref a_p0_coups, .ref a_p0_past, .ref a_p0_fairDays, .ref a_p0_images, .ref a_p0_imageHeld, .ref a_p0_sheets, .int i_p0_latestFault, .int i_p0_latestTear])), (a_p0_rules, .inr (6, [.int i_p0_rules_seats, .int i_p0_rules_stirs, .ref a_p0_rules_need, .ref a_p0_rules_kind, .ref a_p0_rules_first, .ref a_p0_rules_second, .ref a_p0_rules_after])), (a_p0_rules_need, .inl (G 1, 7, .inl v_p0_rules_need)), (a_p0_state, .inr (8, [.ref a_p0_state_pieces, .ref a_p0_state_friends, .ref a_p0_state_spoons, .ref a_p0_state_eaten, .ref a_p0_state_seen, .int i_p0_state_seenDays, .int i_p0_state_bone, .int i_p0_state_king, .int i_p0_state_days])), (a_p0_state_friends, .inl (G 1, 7, .inl v_p0_state_friends)), (a_p0_state_spoons, .inl (G 1, 7, .inl v_p0_state_spoons)), (a_p0_state_eaten, .inl (G 1, 7, .inl v_p0_state_eaten))] H := by rw [hH]; exact hP
  rw [← hH]
  clear hH
  unfold f_X11_one at hf
  refine lv_aload_n hx hb dX11_one_0 rfl (lv_at hl 0 rfl) ?_
  refine va_get (D := D) (ci := 11) (v := .ref a_p0_rules) (C := RX11) (T := TX11) (N := 15) hx hb hts inX11_one_X11 hown hK hP 0 rfl rfl 0 (by decide) (hts _ mwX11_one_1) (fun _ h9 => h9) rfl dX11_one_1 ?_
  refine lv_iload_n hx hb dX11_one_4 rfl (lv_at hl 1 rfl) ?_
  have hq := bd1_s hf
  clear hf
  obtain ⟨z1, hcall, hf⟩ := hq
  refine gcI (ws' := [(a_p0, .inr (11, [.ref a_p0_rules, .ref a_p0_state, .ref a_p0_tape, .ref a_p0_reader, .ref a_p0_kitchen, .ref a_p0_luck, .ref a_p0_plans, .ref a_p0_coups, .ref a_p0_past, .ref a_p0_fairDays, .ref a_p0_images, .ref a_p0_imageHeld, .ref a_p0_sheets, .int i_p0_latestFault, .int i_p0_latestTear])), (a_p0_rules, .inr (6, [.int i_p0_rules_seats, .int i_p0_rules_stirs, .ref a_p0_rules_need, .ref a_p0_rules_kind, .ref a_p0_rules_first, .ref a_p0_rules_second, .ref a_p0_rules_after])), (a_p0_rules_need, .inl (G 1, 7, .inl v_p0_rules_need)), (a_p0_state, .inr (8, [.ref a_p0_state_pieces, .ref a_p0_state_friends, .ref a_p0_state_spoons, .ref a_p0_state_eaten, .ref a_p0_state_seen, .int i_p0_state_seenDays, .int i_p0_state_bone, .int i_p0_state_king, .int i_p0_state_days])), (a_p0_state_friends, .inl (G 1, 7, .inl v_p0_state_friends)), (a_p0_state_spoons, .inl (G 1, 7, .inl v_p0_state_spoons)), (a_p0_state_eaten, .inl (G 1, 7, .inl v_p0_state_eaten))]) (va_runV (As := [.int x1]) (rest := []) ⟨hx, hb, hml, hown, hts⟩ (c_X6_hasSeat (l := l) (D := D) (G := G) (sz := H.size) (a_p0 := a_p0_rules) (a_p0_need := a_p0_rules_need) (a_p0_kind := a_p0_rules_kind) (a_p0_first := a_p0_rules_first) (a_p0_second := a_p0_rules_second) (a_p0_after := a_p0_rules_after) (i_p0_seats := i_p0_rules_seats) (i_p0_stirs := i_p0_rules_stirs) (x1 := x1) (r := z1) (hf := hcall)) (cwV 1 hts gX11_one_X6_hasSeat rfl rfl rfl (by decide +kernel) ⟨Nat.le_of_ble_eq_true rfl, Nat.le_of_ble_eq_true rfl⟩) (preG_V (ci := 6) (hP.sub [1] rfl) (hD.sub [1] rfl rfl) hK rfl rfl) rfl rfl hl.1 rfl (lv_room (Nat.le_of_ble_eq_true rfl)) dX11_one_5 ⟨Nat.le_of_ble_eq_true rfl, Nat.le_of_ble_eq_true rfl⟩) hP hD hS hA [1] [0, 2, 3, 4, 5, 6] [0, 6, 1, 2, 3, 4, 5] rfl rfl rfl (by decide) rfl rfl rfl (fun H locs hP hD hS => ?_)
  clear hcall
  refine lv_if_ne (tgt := 13) hx hb dX11_one_8 (by decide) (fun cc => ?_) (fun cc => ?_)
  ·
    replace hf := ite_f cc hf
    clear cc
    refine lv_iload_n hx hb dX11_one_13 rfl (lv_at hl 2 rfl) ?_
    rcases Decidable.em (x2 = (0 : Int32)) with hk2 | hk2
    ·
      replace hf := ite_t hk2 hf
      refine lv_tableIn (tgt := 44) hx hb dX11_one_14 (by rw [hk2]; decide) (by rw [hk2]; decide) (by rw [hk2]; rfl) (by decide) ?_
      clear hk2
      refine lv_aload_n hx hb dX11_one_44 rfl (lv_at hl 0 rfl) ?_
      refine va_get (D := D) (ci := 11) (v := .ref a_p0_state) (C := RX11) (T := TX11) (N := 15) hx hb hts inX11_one_X11 hown hK hP 0 rfl rfl 1 (by decide) (hts _ mwX11_one_2) (fun _ h9 => h9) rfl dX11_one_45 ?_
      refine va_get (D := D) (ci := 8) (v := .ref a_p0_state_friends) (C := RX8) (T := TX8) (N := 9) hx hb hts inX11_one_X8 hown hK hP 3 rfl rfl 1 (by decide) (hts _ mwX11_one_4) (fun _ h9 => h9) rfl dX11_one_48 ?_
      refine lv_iload_n hx hb dX11_one_51 rfl (lv_at hl 1 rfl) ?_
      have hc := ck_c hf
      replace hf := ck_r hf
      refine va_iald hx hb hK hP 4 1 rfl rfl (ixB_in hc) dX11_one_52 ?_
      clear hc
      obtain rfl := ou1 hf
      rw [hQ]
      exact W.iret hx hb hr (fun t ht hW => ⟨⟨_, (), rfl, rfl, by rw [ht]; exact hP, va_K.moved hW.alike hK, hD⟩, hS.F ht⟩) hS.2.2 dX11_one_53
    replace hf := ite_f hk2 hf
    rcases Decidable.em (x2 = (1 : Int32)) with hk3 | hk3
    ·
      replace hf := ite_t hk3 hf
      refine lv_tableIn (tgt := 54) hx hb dX11_one_14 (by rw [hk3]; decide) (by rw [hk3]; decide) (by rw [hk3]; rfl) (by decide) ?_
      clear hk3 hk2
      refine lv_aload_n hx hb dX11_one_54 rfl (lv_at hl 0 rfl) ?_
      refine va_get (D := D) (ci := 11) (v := .ref a_p0_state) (C := RX11) (T := TX11) (N := 15) hx hb hts inX11_one_X11 hown hK hP 0 rfl rfl 1 (by decide) (hts _ mwX11_one_2) (fun _ h9 => h9) rfl dX11_one_55 ?_
      refine va_get (D := D) (ci := 8) (v := .ref a_p0_state_spoons) (C := RX8) (T := TX8) (N := 9) hx hb hts inX11_one_X8 hown hK hP 3 rfl rfl 2 (by decide) (hts _ mwX11_one_5) (fun _ h9 => h9) rfl dX11_one_58 ?_
      refine lv_iload_n hx hb dX11_one_61 rfl (lv_at hl 1 rfl) ?_
      have hc := ck_c hf
      replace hf := ck_r hf
      refine va_iald hx hb hK hP 5 1 rfl rfl (ixB_in hc) dX11_one_62 ?_
      clear hc
      obtain rfl := ou1 hf
      rw [hQ]
      exact W.iret hx hb hr (fun t ht hW => ⟨⟨_, (), rfl, rfl, by rw [ht]; exact hP, va_K.moved hW.alike hK, hD⟩, hS.F ht⟩) hS.2.2 dX11_one_63
    replace hf := ite_f hk3 hf
    rcases Decidable.em (x2 = (2 : Int32)) with hk4 | hk4
    ·
      replace hf := ite_t hk4 hf
      refine lv_tableIn (tgt := 64) hx hb dX11_one_14 (by rw [hk4]; decide) (by rw [hk4]; decide) (by rw [hk4]; rfl) (by decide) ?_
      clear hk4 hk2 hk3
      refine lv_aload_n hx hb dX11_one_64 rfl (lv_at hl 0 rfl) ?_
      refine va_get (D := D) (ci := 11) (v := .ref a_p0_rules) (C := RX11) (T := TX11) (N := 15) hx hb hts inX11_one_X11 hown hK hP 0 rfl rfl 0 (by decide) (hts _ mwX11_one_1) (fun _ h9 => h9) rfl dX11_one_65 ?_
      refine va_get (D := D) (ci := 6) (v := .ref a_p0_rules_need) (C := RX6) (T := TX6) (N := 7) hx hb hts inX11_one_X6 hown hK hP 1 rfl rfl 2 (by decide) (hts _ mwX11_one_7) (fun _ h9 => h9) rfl dX11_one_68 ?_
      refine lv_iload_n hx hb dX11_one_71 rfl (lv_at hl 1 rfl) ?_
      have hc := ck_c hf
      replace hf := ck_r hf
      refine va_iald hx hb hK hP 2 1 rfl rfl (ixB_in hc) dX11_one_72 ?_
      clear hc
      obtain rfl := ou1 hf
      rw [hQ]
      exact W.iret hx hb hr (fun t ht hW => ⟨⟨_, (), rfl, rfl, by rw [ht]; exact hP, va_K.moved hW.alike hK, hD⟩, hS.F ht⟩) hS.2.2 dX11_one_73
    replace hf := ite_f hk4 hf
    rcases Decidable.em (x2 = (3 : Int32)) with hk5 | hk5
    ·
      replace hf := ite_t hk5 hf
      refine lv_tableIn (tgt := 74) hx hb dX11_one_14 (by rw [hk5]; decide) (by rw [hk5]; decide) (by rw [hk5]; rfl) (by decide) ?_
      clear hk5 hk2 hk3 hk4
      refine lv_aload_n hx hb dX11_one_74 rfl (lv_at hl 0 rfl) ?_
      refine va_get (D := D) (ci := 11) (v := .ref a_p0_state) (C := RX11) (T := TX11) (N := 15) hx hb hts inX11_one_X11 hown hK hP 0 rfl rfl 1 (by decide) (hts _ mwX11_one_2) (fun _ h9 => h9) rfl dX11_one_75 ?_
      refine va_get (D := D) (ci := 8) (v := .ref a_p0_state_eaten) (C := RX8) (T := TX8) (N := 9) hx hb hts inX11_one_X8 hown hK hP 3 rfl rfl 3 (by decide) (hts _ mwX11_one_8) (fun _ h9 => h9) rfl dX11_one_78 ?_
      refine lv_iload_n hx hb dX11_one_81 rfl (lv_at hl 1 rfl) ?_
      have hc := ck_c hf
      replace hf := ck_r hf
      refine va_iald hx hb hK hP 6 1 rfl rfl (ixB_in hc) dX11_one_82 ?_
      clear hc
      obtain rfl := ou1 hf
      rw [hQ]
      exact W.iret hx hb hr (fun t ht hW => ⟨⟨_, (), rfl, rfl, by rw [ht]; exact hP, va_K.moved hW.alike hK, hD⟩, hS.F ht⟩) hS.2.2 dX11_one_83
    replace hf := ite_f hk5 hf
    have thk2 := tsw_ne hk2
    have thk3 := tsw_ne hk3
    have thk4 := tsw_ne hk4
    have thk5 := tsw_ne hk5
    rw [show ((0 : Int32)).toInt = 0 from by decide] at thk2
    rw [show ((1 : Int32)).toInt = 1 from by decide] at thk3
    rw [show ((2 : Int32)).toInt = 2 from by decide] at thk4
    rw [show ((3 : Int32)).toInt = 3 from by decide] at thk5
    refine lv_tableOut (tgt := 84) hx hb dX11_one_14 (by omega) (by decide) ?_
    clear thk2 thk3 thk4 thk5 hk2 hk3 hk4 hk5
    refine lv_iconst (v := (-1 : Int32)) hx hb dX11_one_84 (by decide) ?_
    obtain rfl := ou1 hf
    rw [hQ]
    exact W.iret hx hb hr (fun t ht hW => ⟨⟨_, (), rfl, rfl, by rw [ht]; exact hP, va_K.moved hW.alike hK, hD⟩, hS.F ht⟩) hS.2.2 dX11_one_85
  ·
    replace hf := ite_t cc hf
    clear cc
    refine lv_iconst (v := (-1 : Int32)) hx hb dX11_one_11 (by decide) ?_
    obtain rfl := ou1 hf
    rw [hQ]
    exact W.iret hx hb hr (fun t ht hW => ⟨⟨_, (), rfl, rfl, by rw [ht]; exact hP, va_K.moved hW.alike hK, hD⟩, hS.F ht⟩) hS.2.2 dX11_one_12

noncomputable def f_X11_stir (i_p0_rules_seats : Int32) (i_p0_rules_stirs : Int32) (x1 : Int32) (x2 : Int32) : Option (Int32) := (bd1 (f_X6_hasStir i_p0_rules_stirs x1) (fun (z1 : Int32) => (if z1 = 0 then (some (-1 : Int32)) else (bd1 (f_X6_hasSeat i_p0_rules_seats x2) (fun (z2 : Int32) => (if z2 = 0 then (some (-1 : Int32)) else none))))))
abbrev rm_X11_stir : Room := { frames := 1, cells := 0, slots := 0, locals := 21 }
theorem inX11_stir_X11 : ∀ w ∈ wsX110, w ∈ wsX11_stir := by decide +kernel
theorem mwX11_stir_1 : Cond.fieldLink RX11 10 "LadleKings" "rules" "LLadleKings$Rules;" ∈ wsX11_stir := by decide +kernel
set_option maxHeartbeats 8000000 in
set_option maxRecDepth 100000 in
theorem c_X11_stir (l : Launch) (D : va_G) (G : Nat → ClassId) (sz : Nat) (a_p0 : Nat) (a_p0_rules : Nat) (a_p0_state : Nat) (a_p0_tape : Nat) (a_p0_reader : Nat) (a_p0_kitchen : Nat) (a_p0_luck : Nat) (a_p0_plans : Nat) (a_p0_coups : Nat) (a_p0_past : Nat) (a_p0_fairDays : Nat) (a_p0_images : Nat) (a_p0_imageHeld : Nat) (a_p0_sheets : Nat) (a_p0_rules_need : Nat) (a_p0_rules_kind : Nat) (a_p0_rules_first : Nat) (a_p0_rules_second : Nat) (a_p0_rules_after : Nat) (i_p0_latestFault : Int32) (i_p0_latestTear : Int32) (i_p0_rules_seats : Int32) (i_p0_rules_stirs : Int32) (x1 : Int32) (x2 : Int32) (r : Int32) (hf : f_X11_stir i_p0_rules_seats i_p0_rules_stirs x1 x2 = some r) : Met l yX11_stir wsX11_stir rm_X11_stir (pcG D G [.ref a_p0, .int x1, .int x2] sz [(a_p0, .inr (11, [.ref a_p0_rules, .ref a_p0_state, .ref a_p0_tape, .ref a_p0_reader, .ref a_p0_kitchen, .ref a_p0_luck, .ref a_p0_plans, .ref a_p0_coups, .ref a_p0_past, .ref a_p0_fairDays, .ref a_p0_images, .ref a_p0_imageHeld, .ref a_p0_sheets, .int i_p0_latestFault, .int i_p0_latestTear])), (a_p0_rules, .inr (6, [.int i_p0_rules_seats, .int i_p0_rules_stirs, .ref a_p0_rules_need, .ref a_p0_rules_kind, .ref a_p0_rules_first, .ref a_p0_rules_second, .ref a_p0_rules_after]))]) (qcI D G r [(a_p0, .inr (11, [.ref a_p0_rules, .ref a_p0_state, .ref a_p0_tape, .ref a_p0_reader, .ref a_p0_kitchen, .ref a_p0_luck, .ref a_p0_plans, .ref a_p0_coups, .ref a_p0_past, .ref a_p0_fairDays, .ref a_p0_images, .ref a_p0_imageHeld, .ref a_p0_sheets, .int i_p0_latestFault, .int i_p0_latestTear])), (a_p0_rules, .inr (6, [.int i_p0_rules_seats, .int i_p0_rules_stirs, .ref a_p0_rules_need, .ref a_p0_rules_kind, .ref a_p0_rules_first, .ref a_p0_rules_second, .ref a_p0_rules_after]))] (va_A [(a_p0, .inr (11, [.ref a_p0_rules, .ref a_p0_state, .ref a_p0_tape, .ref a_p0_reader, .ref a_p0_kitchen, .ref a_p0_luck, .ref a_p0_plans, .ref a_p0_coups, .ref a_p0_past, .ref a_p0_fairDays, .ref a_p0_images, .ref a_p0_imageHeld, .ref a_p0_sheets, .int i_p0_latestFault, .int i_p0_latestTear])), (a_p0_rules, .inr (6, [.int i_p0_rules_seats, .int i_p0_rules_stirs, .ref a_p0_rules_need, .ref a_p0_rules_kind, .ref a_p0_rules_first, .ref a_p0_rules_second, .ref a_p0_rules_after]))] sz)) 0 0 (va_A [(a_p0, .inr (11, [.ref a_p0_rules, .ref a_p0_state, .ref a_p0_tape, .ref a_p0_reader, .ref a_p0_kitchen, .ref a_p0_luck, .ref a_p0_plans, .ref a_p0_coups, .ref a_p0_past, .ref a_p0_fairDays, .ref a_p0_images, .ref a_p0_imageHeld, .ref a_p0_sheets, .int i_p0_latestFault, .int i_p0_latestTear])), (a_p0_rules, .inr (6, [.int i_p0_rules_seats, .int i_p0_rules_stirs, .ref a_p0_rules_need, .ref a_p0_rules_kind, .ref a_p0_rules_first, .ref a_p0_rules_second, .ref a_p0_rules_after]))] sz) := by
  refine Met.ofW (cc := cX11_stir) (maxL := 3) (ret := (some .int)) (by decide) rfl ?_
  intro p e s m args below meth c s₁ B hml hv
  obtain ⟨rfl, hsz, hP, hK, hD0⟩ := hv
  have hx := B.exec
  have hb := B.bytes
  have hr := B.returns
  have hts := atoms_spec (ws := wsX11_stir) B.pre
  have hown : s.vm.findClass RX11 = some m.cls := findClass_of_methodNamed B.named
  have hlocks := B.notSynchronized
  subst hsz
  have hD := hD0.self (sz := s.heap.size)
  generalize hAe : va_A [(a_p0, .inr (11, [.ref a_p0_rules, .ref a_p0_state, .ref a_p0_tape, .ref a_p0_reader, .ref a_p0_kitchen, .ref a_p0_luck, .ref a_p0_plans, .ref a_p0_coups, .ref a_p0_past, .ref a_p0_fairDays, .ref a_p0_images, .ref a_p0_imageHeld, .ref a_p0_sheets, .int i_p0_latestFault, .int i_p0_latestTear])), (a_p0_rules, .inr (6, [.int i_p0_rules_seats, .int i_p0_rules_stirs, .ref a_p0_rules_need, .ref a_p0_rules_kind, .ref a_p0_rules_first, .ref a_p0_rules_second, .ref a_p0_rules_after]))] s.heap.size = A at hD ⊢
  have hA : ∀ q : Nat, s.heap.size ≤ q → A q := fun q h => by rw [← hAe]; exact Or.inr h
  clear hAe hD0
  have hS : va_S A s.heap s.heap [] := va_S.rf
  have hl := lv_entry ([.ref a_p0, .int x1, .int x2]) (n := 3) (Nat.le_of_ble_eq_true rfl)
  rw [lg_entry_eq]
  generalize (lg_sl ([.ref a_p0, .int x1, .int x2]) ++ List.replicate (3 - (lg_sl ([.ref a_p0, .int x1, .int x2])).length) Slot.unset).toArray = ls at hl ⊢
  have hl : lv_has ls 3 [(0, .ref a_p0), (1, .int x1), (2, .int x2)] := hl
  refine W_nameQ (fun Q hQ => ?_)
  obtain ⟨H, hH⟩ : ∃ H, H = s.heap := ⟨_, rfl⟩
  replace hS : va_S A s.heap H [] := by rw [hH]; exact hS
  replace hP : va_P D vwCl [(a_p0, .inr (11, [.ref a_p0_rules, .ref a_p0_state, .ref a_p0_tape, .ref a_p0_reader, .ref a_p0_kitchen, .ref a_p0_luck, .ref a_p0_plans, .ref a_p0_coups, .ref a_p0_past, .ref a_p0_fairDays, .ref a_p0_images, .ref a_p0_imageHeld, .ref a_p0_sheets, .int i_p0_latestFault, .int i_p0_latestTear])), (a_p0_rules, .inr (6, [.int i_p0_rules_seats, .int i_p0_rules_stirs, .ref a_p0_rules_need, .ref a_p0_rules_kind, .ref a_p0_rules_first, .ref a_p0_rules_second, .ref a_p0_rules_after]))] H := by rw [hH]; exact hP
  rw [← hH]
  clear hH
  unfold f_X11_stir at hf
  refine lv_aload_n hx hb dX11_stir_0 rfl (lv_at hl 0 rfl) ?_
  refine va_get (D := D) (ci := 11) (v := .ref a_p0_rules) (C := RX11) (T := TX11) (N := 15) hx hb hts inX11_stir_X11 hown hK hP 0 rfl rfl 0 (by decide) (hts _ mwX11_stir_1) (fun _ h9 => h9) rfl dX11_stir_1 ?_
  refine lv_iload_n hx hb dX11_stir_4 rfl (lv_at hl 1 rfl) ?_
  have hq := bd1_s hf
  clear hf
  obtain ⟨z1, hcall, hf⟩ := hq
  refine gcI (ws' := [(a_p0, .inr (11, [.ref a_p0_rules, .ref a_p0_state, .ref a_p0_tape, .ref a_p0_reader, .ref a_p0_kitchen, .ref a_p0_luck, .ref a_p0_plans, .ref a_p0_coups, .ref a_p0_past, .ref a_p0_fairDays, .ref a_p0_images, .ref a_p0_imageHeld, .ref a_p0_sheets, .int i_p0_latestFault, .int i_p0_latestTear])), (a_p0_rules, .inr (6, [.int i_p0_rules_seats, .int i_p0_rules_stirs, .ref a_p0_rules_need, .ref a_p0_rules_kind, .ref a_p0_rules_first, .ref a_p0_rules_second, .ref a_p0_rules_after]))]) (va_runV (As := [.int x1]) (rest := []) ⟨hx, hb, hml, hown, hts⟩ (c_X6_hasStir (l := l) (D := D) (G := G) (sz := H.size) (a_p0 := a_p0_rules) (a_p0_need := a_p0_rules_need) (a_p0_kind := a_p0_rules_kind) (a_p0_first := a_p0_rules_first) (a_p0_second := a_p0_rules_second) (a_p0_after := a_p0_rules_after) (i_p0_seats := i_p0_rules_seats) (i_p0_stirs := i_p0_rules_stirs) (x1 := x1) (r := z1) (hf := hcall)) (cwV 1 hts gX11_stir_X6_hasStir rfl rfl rfl (by decide +kernel) ⟨Nat.le_of_ble_eq_true rfl, Nat.le_of_ble_eq_true rfl⟩) (preG_V (ci := 6) (hP.sub [1] rfl) (hD.sub [1] rfl rfl) hK rfl rfl) rfl rfl hl.1 rfl (lv_room (Nat.le_of_ble_eq_true rfl)) dX11_stir_5 ⟨Nat.le_of_ble_eq_true rfl, Nat.le_of_ble_eq_true rfl⟩) hP hD hS hA [1] [0] [0, 1] rfl rfl rfl (by decide) rfl rfl rfl (fun H locs hP hD hS => ?_)
  clear hcall
  refine lv_if_eq (tgt := 34) hx hb dX11_stir_8 (by decide) (fun cc => ?_) (fun cc => ?_)
  ·
    replace hf := ite_t cc hf
    clear cc
    refine lv_iconst (v := (-1 : Int32)) hx hb dX11_stir_34 (by decide) ?_
    obtain rfl := ou1 hf
    rw [hQ]
    exact W.iret hx hb hr (fun t ht hW => ⟨⟨_, (), rfl, rfl, by rw [ht]; exact hP, va_K.moved hW.alike hK, hD⟩, hS.F ht⟩) hS.2.2 dX11_stir_35
  ·
    replace hf := ite_f cc hf
    clear cc
    refine lv_aload_n hx hb dX11_stir_11 rfl (lv_at hl 0 rfl) ?_
    refine va_get (D := D) (ci := 11) (v := .ref a_p0_rules) (C := RX11) (T := TX11) (N := 15) hx hb hts inX11_stir_X11 hown hK hP 0 rfl rfl 0 (by decide) (hts _ mwX11_stir_1) (fun _ h9 => h9) rfl dX11_stir_12 ?_
    refine lv_iload_n hx hb dX11_stir_15 rfl (lv_at hl 2 rfl) ?_
    have hq := bd1_s hf
    clear hf
    obtain ⟨z2, hcall, hf⟩ := hq
    refine gcI (ws' := [(a_p0, .inr (11, [.ref a_p0_rules, .ref a_p0_state, .ref a_p0_tape, .ref a_p0_reader, .ref a_p0_kitchen, .ref a_p0_luck, .ref a_p0_plans, .ref a_p0_coups, .ref a_p0_past, .ref a_p0_fairDays, .ref a_p0_images, .ref a_p0_imageHeld, .ref a_p0_sheets, .int i_p0_latestFault, .int i_p0_latestTear])), (a_p0_rules, .inr (6, [.int i_p0_rules_seats, .int i_p0_rules_stirs, .ref a_p0_rules_need, .ref a_p0_rules_kind, .ref a_p0_rules_first, .ref a_p0_rules_second, .ref a_p0_rules_after]))]) (va_runV (As := [.int x2]) (rest := []) ⟨hx, hb, hml, hown, hts⟩ (c_X6_hasSeat (l := l) (D := D) (G := G) (sz := H.size) (a_p0 := a_p0_rules) (a_p0_need := a_p0_rules_need) (a_p0_kind := a_p0_rules_kind) (a_p0_first := a_p0_rules_first) (a_p0_second := a_p0_rules_second) (a_p0_after := a_p0_rules_after) (i_p0_seats := i_p0_rules_seats) (i_p0_stirs := i_p0_rules_stirs) (x1 := x2) (r := z2) (hf := hcall)) (cwV 1 hts gX11_stir_X6_hasSeat rfl rfl rfl (by decide +kernel) ⟨Nat.le_of_ble_eq_true rfl, Nat.le_of_ble_eq_true rfl⟩) (preG_V (ci := 6) (hP.sub [1] rfl) (hD.sub [1] rfl rfl) hK rfl rfl) rfl rfl hl.1 rfl (lv_room (Nat.le_of_ble_eq_true rfl)) dX11_stir_16 ⟨Nat.le_of_ble_eq_true rfl, Nat.le_of_ble_eq_true rfl⟩) hP hD hS hA [1] [0] [0, 1] rfl rfl rfl (by decide) rfl rfl rfl (fun H locs hP hD hS => ?_)
    clear hcall
    refine lv_if_eq (tgt := 34) hx hb dX11_stir_19 (by decide) (fun cc => ?_) (fun cc => ?_)
    ·
      replace hf := ite_t cc hf
      clear cc
      refine lv_iconst (v := (-1 : Int32)) hx hb dX11_stir_34 (by decide) ?_
      obtain rfl := ou1 hf
      rw [hQ]
      exact W.iret hx hb hr (fun t ht hW => ⟨⟨_, (), rfl, rfl, by rw [ht]; exact hP, va_K.moved hW.alike hK, hD⟩, hS.F ht⟩) hS.2.2 dX11_stir_35
    ·
      replace hf := ite_f cc hf
      clear cc
      refine lv_aload_n hx hb dX11_stir_22 rfl (lv_at hl 0 rfl) ?_
      refine va_get (D := D) (ci := 11) (v := .ref a_p0_rules) (C := RX11) (T := TX11) (N := 15) hx hb hts inX11_stir_X11 hown hK hP 0 rfl rfl 0 (by decide) (hts _ mwX11_stir_1) (fun _ h9 => h9) rfl dX11_stir_23 ?_
      refine lv_iload_n hx hb dX11_stir_26 rfl (lv_at hl 1 rfl) ?_
      refine lv_iload_n hx hb dX11_stir_27 rfl (lv_at hl 2 rfl) ?_
      cases hf

noncomputable def f_X11_befriend (i_p0_rules_seats : Int32) (v_p0_state_friends : (Nat → Int32)) (x1 : Int32) (x2 : Int32) (x3 : Int32) : Option (Int32 × (Nat → Int32)) := (bd1 (f_X6_hasSeat i_p0_rules_seats x1) (fun (z1 : Int32) => (if z1 = 0 then (some ((-1 : Int32), v_p0_state_friends)) else (bd1 (f_X6_hasSeat i_p0_rules_seats x2) (fun (z2 : Int32) => (if z2 = 0 then (some ((-1 : Int32), v_p0_state_friends)) else (if x1 = x2 then (some ((-1 : Int32), v_p0_state_friends)) else (bd1 (f_X8_isFriend v_p0_state_friends x1 x2) (fun (z3 : Int32) => (jn (fun (z4 : Int32) => (bnd z4 (fun (z6 : Int32) => (bd1 (f_X8_setFriend v_p0_state_friends x1 x2 x3) (fun (w7 : (Nat → Int32)) => (some (z6, w7))))))) (fun (J5 : Int32 → Option (Int32 × (Nat → Int32))) => (if z3 = 0 then (J5 (0 : Int32)) else (J5 (1 : Int32))))))))))))))
abbrev rm_X11_befriend : Room := { frames := 1, cells := 0, slots := 0, locals := 23 }
theorem inX11_befriend_X11 : ∀ w ∈ wsX110, w ∈ wsX11_befriend := by decide +kernel
theorem mwX11_befriend_1 : Cond.fieldLink RX11 10 "LadleKings" "rules" "LLadleKings$Rules;" ∈ wsX11_befriend := by decide +kernel
theorem mwX11_befriend_2 : Cond.fieldLink RX11 19 "LadleKings" "state" "LLadleKings$State;" ∈ wsX11_befriend := by decide +kernel
set_option maxHeartbeats 8000000 in
set_option maxRecDepth 100000 in
theorem c_X11_befriend (l : Launch) (D : va_G) (G : Nat → ClassId) (sz : Nat) (a_p0 : Nat) (a_p0_rules : Nat) (a_p0_state : Nat) (a_p0_tape : Nat) (a_p0_reader : Nat) (a_p0_kitchen : Nat) (a_p0_luck : Nat) (a_p0_plans : Nat) (a_p0_coups : Nat) (a_p0_past : Nat) (a_p0_fairDays : Nat) (a_p0_images : Nat) (a_p0_imageHeld : Nat) (a_p0_sheets : Nat) (a_p0_rules_need : Nat) (a_p0_rules_kind : Nat) (a_p0_rules_first : Nat) (a_p0_rules_second : Nat) (a_p0_rules_after : Nat) (a_p0_state_pieces : Nat) (a_p0_state_friends : Nat) (a_p0_state_spoons : Nat) (a_p0_state_eaten : Nat) (a_p0_state_seen : Nat) (i_p0_latestFault : Int32) (i_p0_latestTear : Int32) (i_p0_rules_seats : Int32) (i_p0_rules_stirs : Int32) (i_p0_state_seenDays : Int32) (i_p0_state_bone : Int32) (i_p0_state_king : Int32) (i_p0_state_days : Int32) (v_p0_state_friends : (Nat → Int32)) (x1 : Int32) (x2 : Int32) (x3 : Int32) (r : Int32) (o_v_p0_state_friends : (Nat → Int32)) (hf : f_X11_befriend i_p0_rules_seats v_p0_state_friends x1 x2 x3 = some (r, o_v_p0_state_friends)) : Met l yX11_befriend wsX11_befriend rm_X11_befriend (pcG D G [.ref a_p0, .int x1, .int x2, .int x3] sz [(a_p0, .inr (11, [.ref a_p0_rules, .ref a_p0_state, .ref a_p0_tape, .ref a_p0_reader, .ref a_p0_kitchen, .ref a_p0_luck, .ref a_p0_plans, .ref a_p0_coups, .ref a_p0_past, .ref a_p0_fairDays, .ref a_p0_images, .ref a_p0_imageHeld, .ref a_p0_sheets, .int i_p0_latestFault, .int i_p0_latestTear])), (a_p0_rules, .inr (6, [.int i_p0_rules_seats, .int i_p0_rules_stirs, .ref a_p0_rules_need, .ref a_p0_rules_kind, .ref a_p0_rules_first, .ref a_p0_rules_second, .ref a_p0_rules_after])), (a_p0_state, .inr (8, [.ref a_p0_state_pieces, .ref a_p0_state_friends, .ref a_p0_state_spoons, .ref a_p0_state_eaten, .ref a_p0_state_seen, .int i_p0_state_seenDays, .int i_p0_state_bone, .int i_p0_state_king, .int i_p0_state_days])), (a_p0_state_friends, .inl (G 1, 7, .inl v_p0_state_friends))]) (qcI D G r [(a_p0, .inr (11, [.ref a_p0_rules, .ref a_p0_state, .ref a_p0_tape, .ref a_p0_reader, .ref a_p0_kitchen, .ref a_p0_luck, .ref a_p0_plans, .ref a_p0_coups, .ref a_p0_past, .ref a_p0_fairDays, .ref a_p0_images, .ref a_p0_imageHeld, .ref a_p0_sheets, .int i_p0_latestFault, .int i_p0_latestTear])), (a_p0_rules, .inr (6, [.int i_p0_rules_seats, .int i_p0_rules_stirs, .ref a_p0_rules_need, .ref a_p0_rules_kind, .ref a_p0_rules_first, .ref a_p0_rules_second, .ref a_p0_rules_after])), (a_p0_state, .inr (8, [.ref a_p0_state_pieces, .ref a_p0_state_friends, .ref a_p0_state_spoons, .ref a_p0_state_eaten, .ref a_p0_state_seen, .int i_p0_state_seenDays, .int i_p0_state_bone, .int i_p0_state_king, .int i_p0_state_days])), (a_p0_state_friends, .inl (G 1, 7, .inl o_v_p0_state_friends))] (va_A [(a_p0, .inr (11, [.ref a_p0_rules, .ref a_p0_state, .ref a_p0_tape, .ref a_p0_reader, .ref a_p0_kitchen, .ref a_p0_luck, .ref a_p0_plans, .ref a_p0_coups, .ref a_p0_past, .ref a_p0_fairDays, .ref a_p0_images, .ref a_p0_imageHeld, .ref a_p0_sheets, .int i_p0_latestFault, .int i_p0_latestTear])), (a_p0_rules, .inr (6, [.int i_p0_rules_seats, .int i_p0_rules_stirs, .ref a_p0_rules_need, .ref a_p0_rules_kind, .ref a_p0_rules_first, .ref a_p0_rules_second, .ref a_p0_rules_after])), (a_p0_state, .inr (8, [.ref a_p0_state_pieces, .ref a_p0_state_friends, .ref a_p0_state_spoons, .ref a_p0_state_eaten, .ref a_p0_state_seen, .int i_p0_state_seenDays, .int i_p0_state_bone, .int i_p0_state_king, .int i_p0_state_days])), (a_p0_state_friends, .inl (G 1, 7, .inl v_p0_state_friends))] sz)) 0 0 (va_A [(a_p0, .inr (11, [.ref a_p0_rules, .ref a_p0_state, .ref a_p0_tape, .ref a_p0_reader, .ref a_p0_kitchen, .ref a_p0_luck, .ref a_p0_plans, .ref a_p0_coups, .ref a_p0_past, .ref a_p0_fairDays, .ref a_p0_images, .ref a_p0_imageHeld, .ref a_p0_sheets, .int i_p0_latestFault, .int i_p0_latestTear])), (a_p0_rules, .inr (6, [.int i_p0_rules_seats, .int i_p0_rules_stirs, .ref a_p0_rules_need, .ref a_p0_rules_kind, .ref a_p0_rules_first, .ref a_p0_rules_second, .ref a_p0_rules_after])), (a_p0_state, .inr (8, [.ref a_p0_state_pieces, .ref a_p0_state_friends, .ref a_p0_state_spoons, .ref a_p0_state_eaten, .ref a_p0_state_seen, .int i_p0_state_seenDays, .int i_p0_state_bone, .int i_p0_state_king, .int i_p0_state_days])), (a_p0_state_friends, .inl (G 1, 7, .inl v_p0_state_friends))] sz) := by
  refine Met.ofW (cc := cX11_befriend) (maxL := 5) (ret := (some .int)) (by decide) rfl ?_
  intro p e s m args below meth c s₁ B hml hv
  obtain ⟨rfl, hsz, hP, hK, hD0⟩ := hv
  have hx := B.exec
  have hb := B.bytes
  have hr := B.returns
  have hts := atoms_spec (ws := wsX11_befriend) B.pre
  have hown : s.vm.findClass RX11 = some m.cls := findClass_of_methodNamed B.named
  have hlocks := B.notSynchronized
  subst hsz
  have hD := hD0.self (sz := s.heap.size)
  generalize hAe : va_A [(a_p0, .inr (11, [.ref a_p0_rules, .ref a_p0_state, .ref a_p0_tape, .ref a_p0_reader, .ref a_p0_kitchen, .ref a_p0_luck, .ref a_p0_plans, .ref a_p0_coups, .ref a_p0_past, .ref a_p0_fairDays, .ref a_p0_images, .ref a_p0_imageHeld, .ref a_p0_sheets, .int i_p0_latestFault, .int i_p0_latestTear])), (a_p0_rules, .inr (6, [.int i_p0_rules_seats, .int i_p0_rules_stirs, .ref a_p0_rules_need, .ref a_p0_rules_kind, .ref a_p0_rules_first, .ref a_p0_rules_second, .ref a_p0_rules_after])), (a_p0_state, .inr (8, [.ref a_p0_state_pieces, .ref a_p0_state_friends, .ref a_p0_state_spoons, .ref a_p0_state_eaten, .ref a_p0_state_seen, .int i_p0_state_seenDays, .int i_p0_state_bone, .int i_p0_state_king, .int i_p0_state_days])), (a_p0_state_friends, .inl (G 1, 7, .inl v_p0_state_friends))] s.heap.size = A at hD ⊢
  have hA : ∀ q : Nat, s.heap.size ≤ q → A q := fun q h => by rw [← hAe]; exact Or.inr h
  clear hAe hD0
  have hS : va_S A s.heap s.heap [] := va_S.rf
  have hl := lv_entry ([.ref a_p0, .int x1, .int x2, .int x3]) (n := 5) (Nat.le_of_ble_eq_true rfl)
  rw [lg_entry_eq]
  generalize (lg_sl ([.ref a_p0, .int x1, .int x2, .int x3]) ++ List.replicate (5 - (lg_sl ([.ref a_p0, .int x1, .int x2, .int x3])).length) Slot.unset).toArray = ls at hl ⊢
  have hl : lv_has ls 5 [(0, .ref a_p0), (1, .int x1), (2, .int x2), (3, .int x3)] := hl
  refine W_nameQ (fun Q hQ => ?_)
  obtain ⟨H, hH⟩ : ∃ H, H = s.heap := ⟨_, rfl⟩
  replace hS : va_S A s.heap H [] := by rw [hH]; exact hS
  replace hP : va_P D vwCl [(a_p0, .inr (11, [.ref a_p0_rules, .ref a_p0_state, .ref a_p0_tape, .ref a_p0_reader, .ref a_p0_kitchen, .ref a_p0_luck, .ref a_p0_plans, .ref a_p0_coups, .ref a_p0_past, .ref a_p0_fairDays, .ref a_p0_images, .ref a_p0_imageHeld, .ref a_p0_sheets, .int i_p0_latestFault, .int i_p0_latestTear])), (a_p0_rules, .inr (6, [.int i_p0_rules_seats, .int i_p0_rules_stirs, .ref a_p0_rules_need, .ref a_p0_rules_kind, .ref a_p0_rules_first, .ref a_p0_rules_second, .ref a_p0_rules_after])), (a_p0_state, .inr (8, [.ref a_p0_state_pieces, .ref a_p0_state_friends, .ref a_p0_state_spoons, .ref a_p0_state_eaten, .ref a_p0_state_seen, .int i_p0_state_seenDays, .int i_p0_state_bone, .int i_p0_state_king, .int i_p0_state_days])), (a_p0_state_friends, .inl (G 1, 7, .inl v_p0_state_friends))] H := by rw [hH]; exact hP
  rw [← hH]
  clear hH
  unfold f_X11_befriend at hf
  refine lv_aload_n hx hb dX11_befriend_0 rfl (lv_at hl 0 rfl) ?_
  refine va_get (D := D) (ci := 11) (v := .ref a_p0_rules) (C := RX11) (T := TX11) (N := 15) hx hb hts inX11_befriend_X11 hown hK hP 0 rfl rfl 0 (by decide) (hts _ mwX11_befriend_1) (fun _ h9 => h9) rfl dX11_befriend_1 ?_
  refine lv_iload_n hx hb dX11_befriend_4 rfl (lv_at hl 1 rfl) ?_
  have hq := bd1_s hf
  clear hf
  obtain ⟨z1, hcall, hf⟩ := hq
  refine gcI (ws' := [(a_p0, .inr (11, [.ref a_p0_rules, .ref a_p0_state, .ref a_p0_tape, .ref a_p0_reader, .ref a_p0_kitchen, .ref a_p0_luck, .ref a_p0_plans, .ref a_p0_coups, .ref a_p0_past, .ref a_p0_fairDays, .ref a_p0_images, .ref a_p0_imageHeld, .ref a_p0_sheets, .int i_p0_latestFault, .int i_p0_latestTear])), (a_p0_rules, .inr (6, [.int i_p0_rules_seats, .int i_p0_rules_stirs, .ref a_p0_rules_need, .ref a_p0_rules_kind, .ref a_p0_rules_first, .ref a_p0_rules_second, .ref a_p0_rules_after])), (a_p0_state, .inr (8, [.ref a_p0_state_pieces, .ref a_p0_state_friends, .ref a_p0_state_spoons, .ref a_p0_state_eaten, .ref a_p0_state_seen, .int i_p0_state_seenDays, .int i_p0_state_bone, .int i_p0_state_king, .int i_p0_state_days])), (a_p0_state_friends, .inl (G 1, 7, .inl v_p0_state_friends))]) (va_runV (As := [.int x1]) (rest := []) ⟨hx, hb, hml, hown, hts⟩ (c_X6_hasSeat (l := l) (D := D) (G := G) (sz := H.size) (a_p0 := a_p0_rules) (a_p0_need := a_p0_rules_need) (a_p0_kind := a_p0_rules_kind) (a_p0_first := a_p0_rules_first) (a_p0_second := a_p0_rules_second) (a_p0_after := a_p0_rules_after) (i_p0_seats := i_p0_rules_seats) (i_p0_stirs := i_p0_rules_stirs) (x1 := x1) (r := z1) (hf := hcall)) (cwV 1 hts gX11_befriend_X6_hasSeat rfl rfl rfl (by decide +kernel) ⟨Nat.le_of_ble_eq_true rfl, Nat.le_of_ble_eq_true rfl⟩) (preG_V (ci := 6) (hP.sub [1] rfl) (hD.sub [1] rfl rfl) hK rfl rfl) rfl rfl hl.1 rfl (lv_room (Nat.le_of_ble_eq_true rfl)) dX11_befriend_5 ⟨Nat.le_of_ble_eq_true rfl, Nat.le_of_ble_eq_true rfl⟩) hP hD hS hA [1] [0, 2, 3] [0, 3, 1, 2] rfl rfl rfl (by decide) rfl rfl rfl (fun H locs hP hD hS => ?_)
  clear hcall
  refine lv_if_eq (tgt := 27) hx hb dX11_befriend_8 (by decide) (fun cc => ?_) (fun cc => ?_)
  ·
    replace hf := ite_t cc hf
    clear cc
    refine lv_iconst (v := (-1 : Int32)) hx hb dX11_befriend_27 (by decide) ?_
    obtain ⟨rfl, rfl⟩ := ou2 hf
    rw [hQ]
    exact W.iret hx hb hr (fun t ht hW => ⟨⟨_, (), rfl, rfl, by rw [ht]; exact hP, va_K.moved hW.alike hK, hD⟩, hS.F ht⟩) hS.2.2 dX11_befriend_28
  ·
    replace hf := ite_f cc hf
    clear cc
    refine lv_aload_n hx hb dX11_befriend_11 rfl (lv_at hl 0 rfl) ?_
    refine va_get (D := D) (ci := 11) (v := .ref a_p0_rules) (C := RX11) (T := TX11) (N := 15) hx hb hts inX11_befriend_X11 hown hK hP 0 rfl rfl 0 (by decide) (hts _ mwX11_befriend_1) (fun _ h9 => h9) rfl dX11_befriend_12 ?_
    refine lv_iload_n hx hb dX11_befriend_15 rfl (lv_at hl 2 rfl) ?_
    have hq := bd1_s hf
    clear hf
    obtain ⟨z2, hcall, hf⟩ := hq
    refine gcI (ws' := [(a_p0, .inr (11, [.ref a_p0_rules, .ref a_p0_state, .ref a_p0_tape, .ref a_p0_reader, .ref a_p0_kitchen, .ref a_p0_luck, .ref a_p0_plans, .ref a_p0_coups, .ref a_p0_past, .ref a_p0_fairDays, .ref a_p0_images, .ref a_p0_imageHeld, .ref a_p0_sheets, .int i_p0_latestFault, .int i_p0_latestTear])), (a_p0_rules, .inr (6, [.int i_p0_rules_seats, .int i_p0_rules_stirs, .ref a_p0_rules_need, .ref a_p0_rules_kind, .ref a_p0_rules_first, .ref a_p0_rules_second, .ref a_p0_rules_after])), (a_p0_state, .inr (8, [.ref a_p0_state_pieces, .ref a_p0_state_friends, .ref a_p0_state_spoons, .ref a_p0_state_eaten, .ref a_p0_state_seen, .int i_p0_state_seenDays, .int i_p0_state_bone, .int i_p0_state_king, .int i_p0_state_days])), (a_p0_state_friends, .inl (G 1, 7, .inl v_p0_state_friends))]) (va_runV (As := [.int x2]) (rest := []) ⟨hx, hb, hml, hown, hts⟩ (c_X6_hasSeat (l := l) (D := D) (G := G) (sz := H.size) (a_p0 := a_p0_rules) (a_p0_need := a_p0_rules_need) (a_p0_kind := a_p0_rules_kind) (a_p0_first := a_p0_rules_first) (a_p0_second := a_p0_rules_second) (a_p0_after := a_p0_rules_after) (i_p0_seats := i_p0_rules_seats) (i_p0_stirs := i_p0_rules_stirs) (x1 := x2) (r := z2) (hf := hcall)) (cwV 1 hts gX11_befriend_X6_hasSeat rfl rfl rfl (by decide +kernel) ⟨Nat.le_of_ble_eq_true rfl, Nat.le_of_ble_eq_true rfl⟩) (preG_V (ci := 6) (hP.sub [1] rfl) (hD.sub [1] rfl rfl) hK rfl rfl) rfl rfl hl.1 rfl (lv_room (Nat.le_of_ble_eq_true rfl)) dX11_befriend_16 ⟨Nat.le_of_ble_eq_true rfl, Nat.le_of_ble_eq_true rfl⟩) hP hD hS hA [1] [0, 2, 3] [0, 3, 1, 2] rfl rfl rfl (by decide) rfl rfl rfl (fun H locs hP hD hS => ?_)
    clear hcall
    refine lv_if_eq (tgt := 27) hx hb dX11_befriend_19 (by decide) (fun cc => ?_) (fun cc => ?_)
    ·
      replace hf := ite_t cc hf
      clear cc
      refine lv_iconst (v := (-1 : Int32)) hx hb dX11_befriend_27 (by decide) ?_
      obtain ⟨rfl, rfl⟩ := ou2 hf
      rw [hQ]
      exact W.iret hx hb hr (fun t ht hW => ⟨⟨_, (), rfl, rfl, by rw [ht]; exact hP, va_K.moved hW.alike hK, hD⟩, hS.F ht⟩) hS.2.2 dX11_befriend_28
    ·
      replace hf := ite_f cc hf
      clear cc
      refine lv_iload_n hx hb dX11_befriend_22 rfl (lv_at hl 1 rfl) ?_
      refine lv_iload_n hx hb dX11_befriend_23 rfl (lv_at hl 2 rfl) ?_
      refine lv_icmp_ne (tgt := 29) hx hb dX11_befriend_24 (by decide) (fun cc => ?_) (fun cc => ?_)
      ·
        replace hf := ite_f cc hf
        clear cc
        refine lv_aload_n hx hb dX11_befriend_29 rfl (lv_at hl 0 rfl) ?_
        refine va_get (D := D) (ci := 11) (v := .ref a_p0_state) (C := RX11) (T := TX11) (N := 15) hx hb hts inX11_befriend_X11 hown hK hP 0 rfl rfl 1 (by decide) (hts _ mwX11_befriend_2) (fun _ h9 => h9) rfl dX11_befriend_30 ?_
        refine lv_iload_n hx hb dX11_befriend_33 rfl (lv_at hl 1 rfl) ?_
        refine lv_iload_n hx hb dX11_befriend_34 rfl (lv_at hl 2 rfl) ?_
        have hq := bd1_s hf
        clear hf
        obtain ⟨z3, hcall, hf⟩ := hq
        refine gcI (ws' := [(a_p0, .inr (11, [.ref a_p0_rules, .ref a_p0_state, .ref a_p0_tape, .ref a_p0_reader, .ref a_p0_kitchen, .ref a_p0_luck, .ref a_p0_plans, .ref a_p0_coups, .ref a_p0_past, .ref a_p0_fairDays, .ref a_p0_images, .ref a_p0_imageHeld, .ref a_p0_sheets, .int i_p0_latestFault, .int i_p0_latestTear])), (a_p0_rules, .inr (6, [.int i_p0_rules_seats, .int i_p0_rules_stirs, .ref a_p0_rules_need, .ref a_p0_rules_kind, .ref a_p0_rules_first, .ref a_p0_rules_second, .ref a_p0_rules_after])), (a_p0_state, .inr (8, [.ref a_p0_state_pieces, .ref a_p0_state_friends, .ref a_p0_state_spoons, .ref a_p0_state_eaten, .ref a_p0_state_seen, .int i_p0_state_seenDays, .int i_p0_state_bone, .int i_p0_state_king, .int i_p0_state_days])), (a_p0_state_friends, .inl (G 1, 7, .inl v_p0_state_friends))]) (va_runV (As := [.int x1, .int x2]) (rest := []) ⟨hx, hb, hml, hown, hts⟩ (c_X8_isFriend (l := l) (D := D) (G := G) (sz := H.size) (a_p0 := a_p0_state) (a_p0_pieces := a_p0_state_pieces) (a_p0_friends := a_p0_state_friends) (a_p0_spoons := a_p0_state_spoons) (a_p0_eaten := a_p0_state_eaten) (a_p0_seen := a_p0_state_seen) (i_p0_seenDays := i_p0_state_seenDays) (i_p0_bone := i_p0_state_bone) (i_p0_king := i_p0_state_king) (i_p0_days := i_p0_state_days) (v_p0_friends := v_p0_state_friends) (x1 := x1) (x2 := x2) (r := z3) (hf := hcall)) (cwV 2 hts gX11_befriend_X8_isFriend rfl rfl rfl (by decide +kernel) ⟨Nat.le_of_ble_eq_true rfl, Nat.le_of_ble_eq_true rfl⟩) (preG_V (ci := 8) (hP.sub [2, 3] rfl) (hD.sub [2, 3] rfl rfl) hK rfl rfl) rfl rfl hl.1 rfl (lv_room (Nat.le_of_ble_eq_true rfl)) dX11_befriend_35 ⟨Nat.le_of_ble_eq_true rfl, Nat.le_of_ble_eq_true rfl⟩) hP hD hS hA [2, 3] [0, 1] [0, 1, 2, 3] rfl rfl rfl (by decide) rfl rfl rfl (fun H locs hP hD hS => ?_)
        clear hcall
        have hq := jn_i hf
        clear hf
        obtain ⟨J5, eJ5, hf⟩ := hq
        have hJ5 : ∀ (z4 : Int32) (ls : Array Slot) (H : Heap) (locs : List Loc), lv_has ls 5 [(0, .ref a_p0), (1, .int x1), (2, .int x2), (3, .int x3)] → va_P D vwCl [(a_p0, .inr (11, [.ref a_p0_rules, .ref a_p0_state, .ref a_p0_tape, .ref a_p0_reader, .ref a_p0_kitchen, .ref a_p0_luck, .ref a_p0_plans, .ref a_p0_coups, .ref a_p0_past, .ref a_p0_fairDays, .ref a_p0_images, .ref a_p0_imageHeld, .ref a_p0_sheets, .int i_p0_latestFault, .int i_p0_latestTear])), (a_p0_rules, .inr (6, [.int i_p0_rules_seats, .int i_p0_rules_stirs, .ref a_p0_rules_need, .ref a_p0_rules_kind, .ref a_p0_rules_first, .ref a_p0_rules_second, .ref a_p0_rules_after])), (a_p0_state, .inr (8, [.ref a_p0_state_pieces, .ref a_p0_state_friends, .ref a_p0_state_spoons, .ref a_p0_state_eaten, .ref a_p0_state_seen, .int i_p0_state_seenDays, .int i_p0_state_bone, .int i_p0_state_king, .int i_p0_state_days])), (a_p0_state_friends, .inl (G 1, 7, .inl v_p0_state_friends))] H → va_D A [(a_p0, .inr (11, [.ref a_p0_rules, .ref a_p0_state, .ref a_p0_tape, .ref a_p0_reader, .ref a_p0_kitchen, .ref a_p0_luck, .ref a_p0_plans, .ref a_p0_coups, .ref a_p0_past, .ref a_p0_fairDays, .ref a_p0_images, .ref a_p0_imageHeld, .ref a_p0_sheets, .int i_p0_latestFault, .int i_p0_latestTear])), (a_p0_rules, .inr (6, [.int i_p0_rules_seats, .int i_p0_rules_stirs, .ref a_p0_rules_need, .ref a_p0_rules_kind, .ref a_p0_rules_first, .ref a_p0_rules_second, .ref a_p0_rules_after])), (a_p0_state, .inr (8, [.ref a_p0_state_pieces, .ref a_p0_state_friends, .ref a_p0_state_spoons, .ref a_p0_state_eaten, .ref a_p0_state_seen, .int i_p0_state_seenDays, .int i_p0_state_bone, .int i_p0_state_king, .int i_p0_state_days])), (a_p0_state_friends, .inl (G 1, 7, .inl v_p0_state_friends))] → va_S A s.heap H locs → J5 z4 = some (r, o_v_p0_state_friends) → W p l e rm_X11_befriend s m ([.ref a_p0, .int x1, .int x2, .int x3] : List Value).toArray below meth c H locs 0 0 Q (F0 m 46 ls [.int z4]) := by
          clear hf hl hP hD hS
          intro z4 ls H locs hl hP hD hS hf
          replace hf := jn1_s eJ5 hf
          refine lv_topi (fun z6 ez => ?_)
          replace hf := bnd_s hf ez
          clear ez
          refine lv_istore (lv' := [(4, .int z6), (0, .ref a_p0), (1, .int x1), (2, .int x2), (3, .int x3)]) hx hb dX11_befriend_46 hl (by decide) rfl (fun ls hl => ?_)
          refine lv_aload_n hx hb dX11_befriend_48 rfl (lv_at hl 1 rfl) ?_
          refine va_get (D := D) (ci := 11) (v := .ref a_p0_state) (C := RX11) (T := TX11) (N := 15) hx hb hts inX11_befriend_X11 hown hK hP 0 rfl rfl 1 (by decide) (hts _ mwX11_befriend_2) (fun _ h9 => h9) rfl dX11_befriend_49 ?_
          refine lv_iload_n hx hb dX11_befriend_52 rfl (lv_at hl 2 rfl) ?_
          refine lv_iload_n hx hb dX11_befriend_53 rfl (lv_at hl 3 rfl) ?_
          refine lv_iload_n hx hb dX11_befriend_54 rfl (lv_at hl 4 rfl) ?_
          have hq := bd1_s hf
          clear hf
          obtain ⟨w7, hcall, hf⟩ := hq
          refine gcV (ws' := [(a_p0, .inr (11, [.ref a_p0_rules, .ref a_p0_state, .ref a_p0_tape, .ref a_p0_reader, .ref a_p0_kitchen, .ref a_p0_luck, .ref a_p0_plans, .ref a_p0_coups, .ref a_p0_past, .ref a_p0_fairDays, .ref a_p0_images, .ref a_p0_imageHeld, .ref a_p0_sheets, .int i_p0_latestFault, .int i_p0_latestTear])), (a_p0_rules, .inr (6, [.int i_p0_rules_seats, .int i_p0_rules_stirs, .ref a_p0_rules_need, .ref a_p0_rules_kind, .ref a_p0_rules_first, .ref a_p0_rules_second, .ref a_p0_rules_after])), (a_p0_state, .inr (8, [.ref a_p0_state_pieces, .ref a_p0_state_friends, .ref a_p0_state_spoons, .ref a_p0_state_eaten, .ref a_p0_state_seen, .int i_p0_state_seenDays, .int i_p0_state_bone, .int i_p0_state_king, .int i_p0_state_days])), (a_p0_state_friends, .inl (G 1, 7, .inl w7))]) (va_runV (As := [.int x1, .int x2, .int x3]) (rest := []) ⟨hx, hb, hml, hown, hts⟩ (c_X8_setFriend (l := l) (D := D) (G := G) (sz := H.size) (a_p0 := a_p0_state) (a_p0_pieces := a_p0_state_pieces) (a_p0_friends := a_p0_state_friends) (a_p0_spoons := a_p0_state_spoons) (a_p0_eaten := a_p0_state_eaten) (a_p0_seen := a_p0_state_seen) (i_p0_seenDays := i_p0_state_seenDays) (i_p0_bone := i_p0_state_bone) (i_p0_king := i_p0_state_king) (i_p0_days := i_p0_state_days) (v_p0_friends := v_p0_state_friends) (x1 := x1) (x2 := x2) (x3 := x3) (o_v_p0_friends := w7) (hf := hcall)) (cwV 3 hts gX11_befriend_X8_setFriend rfl rfl rfl (by decide +kernel) ⟨Nat.le_of_ble_eq_true rfl, Nat.le_of_ble_eq_true rfl⟩) (preG_V (ci := 8) (hP.sub [2, 3] rfl) (hD.sub [2, 3] rfl rfl) hK rfl rfl) rfl rfl hl.1 rfl (lv_room (Nat.le_of_ble_eq_true rfl)) dX11_befriend_55 ⟨Nat.le_of_ble_eq_true rfl, Nat.le_of_ble_eq_true rfl⟩) hP hD hS hA [2, 3] [0, 1] [0, 1, 2, 3] rfl rfl rfl (by decide) rfl rfl rfl (fun H locs hP hD hS => ?_)
          clear hcall
          refine lv_iload hx hb dX11_befriend_58 (lv_at hl 0 rfl) ?_
          obtain ⟨rfl, rfl⟩ := ou2 hf
          rw [hQ]
          exact W.iret hx hb hr (fun t ht hW => ⟨⟨_, (), rfl, rfl, by rw [ht]; exact hP, va_K.moved hW.alike hK, hD⟩, hS.F ht⟩) hS.2.2 dX11_befriend_60
        refine lv_if_eq (tgt := 45) hx hb dX11_befriend_38 (by decide) (fun cc => ?_) (fun cc => ?_)
        ·
          replace hf := ite_t cc hf
          clear cc
          refine lv_iconst (v := (0 : Int32)) hx hb dX11_befriend_45 (by decide) ?_
          exact hJ5 _ _ _ _ (lv_sub hl [0, 1, 2, 3] rfl) hP hD hS hf
        ·
          replace hf := ite_f cc hf
          clear cc
          refine lv_iconst (v := (1 : Int32)) hx hb dX11_befriend_41 (by decide) ?_
          refine lv_goto (tgt := 46) hx hb dX11_befriend_42 (by decide) ?_
          exact hJ5 _ _ _ _ (lv_sub hl [0, 1, 2, 3] rfl) hP hD hS hf
      ·
        replace hf := ite_t cc hf
        clear cc
        refine lv_iconst (v := (-1 : Int32)) hx hb dX11_befriend_27 (by decide) ?_
        obtain ⟨rfl, rfl⟩ := ou2 hf
        rw [hQ]
        exact W.iret hx hb hr (fun t ht hW => ⟨⟨_, (), rfl, rfl, by rw [ht]; exact hP, va_K.moved hW.alike hK, hD⟩, hS.F ht⟩) hS.2.2 dX11_befriend_28

noncomputable def f_X11_spoon (i_p0_rules_seats : Int32) (v_p0_state_spoons : (Nat → Int32)) (x1 : Int32) (x2 : Int32) : Option (Int32 × (Nat → Int32)) := (bd1 (f_X6_hasSeat i_p0_rules_seats x1) (fun (z1 : Int32) => (if z1 = 0 then (some ((-1 : Int32), v_p0_state_spoons)) else (if x2 < (1 : Int32) then (some ((-1 : Int32), v_p0_state_spoons)) else (if x2 ≤ (9 : Int32) then (ck (ixB x1 7) (bnd (v_p0_state_spoons (x1).toNatClampNeg) (fun (z2 : Int32) => (ck (ixB x1 7) (bnd (upd v_p0_state_spoons (x1).toNatClampNeg x2) (fun (w3 : (Nat → Int32)) => (some (z2, w3)))))))) else (some ((-1 : Int32), v_p0_state_spoons)))))))
abbrev rm_X11_spoon : Room := { frames := 1, cells := 0, slots := 0, locals := 21 }
theorem inX11_spoon_X11 : ∀ w ∈ wsX110, w ∈ wsX11_spoon := by decide +kernel
theorem mwX11_spoon_1 : Cond.fieldLink RX11 10 "LadleKings" "rules" "LLadleKings$Rules;" ∈ wsX11_spoon := by decide +kernel
theorem mwX11_spoon_2 : Cond.fieldLink RX11 19 "LadleKings" "state" "LLadleKings$State;" ∈ wsX11_spoon := by decide +kernel
theorem inX11_spoon_X8 : ∀ w ∈ wsX80, w ∈ wsX11_spoon := by decide +kernel
theorem mwX11_spoon_4 : Cond.fieldLink RX11 156 "LadleKings$State" "spoons" "[I" ∈ wsX11_spoon := by decide +kernel
set_option maxHeartbeats 8000000 in
set_option maxRecDepth 100000 in
theorem c_X11_spoon (l : Launch) (D : va_G) (G : Nat → ClassId) (sz : Nat) (a_p0 : Nat) (a_p0_rules : Nat) (a_p0_state : Nat) (a_p0_tape : Nat) (a_p0_reader : Nat) (a_p0_kitchen : Nat) (a_p0_luck : Nat) (a_p0_plans : Nat) (a_p0_coups : Nat) (a_p0_past : Nat) (a_p0_fairDays : Nat) (a_p0_images : Nat) (a_p0_imageHeld : Nat) (a_p0_sheets : Nat) (a_p0_rules_need : Nat) (a_p0_rules_kind : Nat) (a_p0_rules_first : Nat) (a_p0_rules_second : Nat) (a_p0_rules_after : Nat) (a_p0_state_pieces : Nat) (a_p0_state_friends : Nat) (a_p0_state_spoons : Nat) (a_p0_state_eaten : Nat) (a_p0_state_seen : Nat) (i_p0_latestFault : Int32) (i_p0_latestTear : Int32) (i_p0_rules_seats : Int32) (i_p0_rules_stirs : Int32) (i_p0_state_seenDays : Int32) (i_p0_state_bone : Int32) (i_p0_state_king : Int32) (i_p0_state_days : Int32) (v_p0_state_spoons : (Nat → Int32)) (x1 : Int32) (x2 : Int32) (r : Int32) (o_v_p0_state_spoons : (Nat → Int32)) (hf : f_X11_spoon i_p0_rules_seats v_p0_state_spoons x1 x2 = some (r, o_v_p0_state_spoons)) : Met l yX11_spoon wsX11_spoon rm_X11_spoon (pcG D G [.ref a_p0, .int x1, .int x2] sz [(a_p0, .inr (11, [.ref a_p0_rules, .ref a_p0_state, .ref a_p0_tape, .ref a_p0_reader, .ref a_p0_kitchen, .ref a_p0_luck, .ref a_p0_plans, .ref a_p0_coups, .ref a_p0_past, .ref a_p0_fairDays, .ref a_p0_images, .ref a_p0_imageHeld, .ref a_p0_sheets, .int i_p0_latestFault, .int i_p0_latestTear])), (a_p0_rules, .inr (6, [.int i_p0_rules_seats, .int i_p0_rules_stirs, .ref a_p0_rules_need, .ref a_p0_rules_kind, .ref a_p0_rules_first, .ref a_p0_rules_second, .ref a_p0_rules_after])), (a_p0_state, .inr (8, [.ref a_p0_state_pieces, .ref a_p0_state_friends, .ref a_p0_state_spoons, .ref a_p0_state_eaten, .ref a_p0_state_seen, .int i_p0_state_seenDays, .int i_p0_state_bone, .int i_p0_state_king, .int i_p0_state_days])), (a_p0_state_spoons, .inl (G 1, 7, .inl v_p0_state_spoons))]) (qcI D G r [(a_p0, .inr (11, [.ref a_p0_rules, .ref a_p0_state, .ref a_p0_tape, .ref a_p0_reader, .ref a_p0_kitchen, .ref a_p0_luck, .ref a_p0_plans, .ref a_p0_coups, .ref a_p0_past, .ref a_p0_fairDays, .ref a_p0_images, .ref a_p0_imageHeld, .ref a_p0_sheets, .int i_p0_latestFault, .int i_p0_latestTear])), (a_p0_rules, .inr (6, [.int i_p0_rules_seats, .int i_p0_rules_stirs, .ref a_p0_rules_need, .ref a_p0_rules_kind, .ref a_p0_rules_first, .ref a_p0_rules_second, .ref a_p0_rules_after])), (a_p0_state, .inr (8, [.ref a_p0_state_pieces, .ref a_p0_state_friends, .ref a_p0_state_spoons, .ref a_p0_state_eaten, .ref a_p0_state_seen, .int i_p0_state_seenDays, .int i_p0_state_bone, .int i_p0_state_king, .int i_p0_state_days])), (a_p0_state_spoons, .inl (G 1, 7, .inl o_v_p0_state_spoons))] (va_A [(a_p0, .inr (11, [.ref a_p0_rules, .ref a_p0_state, .ref a_p0_tape, .ref a_p0_reader, .ref a_p0_kitchen, .ref a_p0_luck, .ref a_p0_plans, .ref a_p0_coups, .ref a_p0_past, .ref a_p0_fairDays, .ref a_p0_images, .ref a_p0_imageHeld, .ref a_p0_sheets, .int i_p0_latestFault, .int i_p0_latestTear])), (a_p0_rules, .inr (6, [.int i_p0_rules_seats, .int i_p0_rules_stirs, .ref a_p0_rules_need, .ref a_p0_rules_kind, .ref a_p0_rules_first, .ref a_p0_rules_second, .ref a_p0_rules_after])), (a_p0_state, .inr (8, [.ref a_p0_state_pieces, .ref a_p0_state_friends, .ref a_p0_state_spoons, .ref a_p0_state_eaten, .ref a_p0_state_seen, .int i_p0_state_seenDays, .int i_p0_state_bone, .int i_p0_state_king, .int i_p0_state_days])), (a_p0_state_spoons, .inl (G 1, 7, .inl v_p0_state_spoons))] sz)) 0 0 (va_A [(a_p0, .inr (11, [.ref a_p0_rules, .ref a_p0_state, .ref a_p0_tape, .ref a_p0_reader, .ref a_p0_kitchen, .ref a_p0_luck, .ref a_p0_plans, .ref a_p0_coups, .ref a_p0_past, .ref a_p0_fairDays, .ref a_p0_images, .ref a_p0_imageHeld, .ref a_p0_sheets, .int i_p0_latestFault, .int i_p0_latestTear])), (a_p0_rules, .inr (6, [.int i_p0_rules_seats, .int i_p0_rules_stirs, .ref a_p0_rules_need, .ref a_p0_rules_kind, .ref a_p0_rules_first, .ref a_p0_rules_second, .ref a_p0_rules_after])), (a_p0_state, .inr (8, [.ref a_p0_state_pieces, .ref a_p0_state_friends, .ref a_p0_state_spoons, .ref a_p0_state_eaten, .ref a_p0_state_seen, .int i_p0_state_seenDays, .int i_p0_state_bone, .int i_p0_state_king, .int i_p0_state_days])), (a_p0_state_spoons, .inl (G 1, 7, .inl v_p0_state_spoons))] sz) := by
  refine Met.ofW (cc := cX11_spoon) (maxL := 4) (ret := (some .int)) (by decide) rfl ?_
  intro p e s m args below meth c s₁ B hml hv
  obtain ⟨rfl, hsz, hP, hK, hD0⟩ := hv
  have hx := B.exec
  have hb := B.bytes
  have hr := B.returns
  have hts := atoms_spec (ws := wsX11_spoon) B.pre
  have hown : s.vm.findClass RX11 = some m.cls := findClass_of_methodNamed B.named
  have hlocks := B.notSynchronized
  subst hsz
  have hD := hD0.self (sz := s.heap.size)
  generalize hAe : va_A [(a_p0, .inr (11, [.ref a_p0_rules, .ref a_p0_state, .ref a_p0_tape, .ref a_p0_reader, .ref a_p0_kitchen, .ref a_p0_luck, .ref a_p0_plans, .ref a_p0_coups, .ref a_p0_past, .ref a_p0_fairDays, .ref a_p0_images, .ref a_p0_imageHeld, .ref a_p0_sheets, .int i_p0_latestFault, .int i_p0_latestTear])), (a_p0_rules, .inr (6, [.int i_p0_rules_seats, .int i_p0_rules_stirs, .ref a_p0_rules_need, .ref a_p0_rules_kind, .ref a_p0_rules_first, .ref a_p0_rules_second, .ref a_p0_rules_after])), (a_p0_state, .inr (8, [.ref a_p0_state_pieces, .ref a_p0_state_friends, .ref a_p0_state_spoons, .ref a_p0_state_eaten, .ref a_p0_state_seen, .int i_p0_state_seenDays, .int i_p0_state_bone, .int i_p0_state_king, .int i_p0_state_days])), (a_p0_state_spoons, .inl (G 1, 7, .inl v_p0_state_spoons))] s.heap.size = A at hD ⊢
  have hA : ∀ q : Nat, s.heap.size ≤ q → A q := fun q h => by rw [← hAe]; exact Or.inr h
  clear hAe hD0
  have hS : va_S A s.heap s.heap [] := va_S.rf
  have hl := lv_entry ([.ref a_p0, .int x1, .int x2]) (n := 4) (Nat.le_of_ble_eq_true rfl)
  rw [lg_entry_eq]
  generalize (lg_sl ([.ref a_p0, .int x1, .int x2]) ++ List.replicate (4 - (lg_sl ([.ref a_p0, .int x1, .int x2])).length) Slot.unset).toArray = ls at hl ⊢
  have hl : lv_has ls 4 [(0, .ref a_p0), (1, .int x1), (2, .int x2)] := hl
  refine W_nameQ (fun Q hQ => ?_)
  obtain ⟨H, hH⟩ : ∃ H, H = s.heap := ⟨_, rfl⟩
  replace hS : va_S A s.heap H [] := by rw [hH]; exact hS
  replace hP : va_P D vwCl [(a_p0, .inr (11, [.ref a_p0_rules, .ref a_p0_state, .ref a_p0_tape, .ref a_p0_reader, .ref a_p0_kitchen, .ref a_p0_luck, .ref a_p0_plans, .ref a_p0_coups, .ref a_p0_past, .ref a_p0_fairDays, .ref a_p0_images, .ref a_p0_imageHeld, .ref a_p0_sheets, .int i_p0_latestFault, .int i_p0_latestTear])), (a_p0_rules, .inr (6, [.int i_p0_rules_seats, .int i_p0_rules_stirs, .ref a_p0_rules_need, .ref a_p0_rules_kind, .ref a_p0_rules_first, .ref a_p0_rules_second, .ref a_p0_rules_after])), (a_p0_state, .inr (8, [.ref a_p0_state_pieces, .ref a_p0_state_friends, .ref a_p0_state_spoons, .ref a_p0_state_eaten, .ref a_p0_state_seen, .int i_p0_state_seenDays, .int i_p0_state_bone, .int i_p0_state_king, .int i_p0_state_days])), (a_p0_state_spoons, .inl (G 1, 7, .inl v_p0_state_spoons))] H := by rw [hH]; exact hP
  rw [← hH]
  clear hH
  unfold f_X11_spoon at hf
  refine lv_aload_n hx hb dX11_spoon_0 rfl (lv_at hl 0 rfl) ?_
  refine va_get (D := D) (ci := 11) (v := .ref a_p0_rules) (C := RX11) (T := TX11) (N := 15) hx hb hts inX11_spoon_X11 hown hK hP 0 rfl rfl 0 (by decide) (hts _ mwX11_spoon_1) (fun _ h9 => h9) rfl dX11_spoon_1 ?_
  refine lv_iload_n hx hb dX11_spoon_4 rfl (lv_at hl 1 rfl) ?_
  have hq := bd1_s hf
  clear hf
  obtain ⟨z1, hcall, hf⟩ := hq
  refine gcI (ws' := [(a_p0, .inr (11, [.ref a_p0_rules, .ref a_p0_state, .ref a_p0_tape, .ref a_p0_reader, .ref a_p0_kitchen, .ref a_p0_luck, .ref a_p0_plans, .ref a_p0_coups, .ref a_p0_past, .ref a_p0_fairDays, .ref a_p0_images, .ref a_p0_imageHeld, .ref a_p0_sheets, .int i_p0_latestFault, .int i_p0_latestTear])), (a_p0_rules, .inr (6, [.int i_p0_rules_seats, .int i_p0_rules_stirs, .ref a_p0_rules_need, .ref a_p0_rules_kind, .ref a_p0_rules_first, .ref a_p0_rules_second, .ref a_p0_rules_after])), (a_p0_state, .inr (8, [.ref a_p0_state_pieces, .ref a_p0_state_friends, .ref a_p0_state_spoons, .ref a_p0_state_eaten, .ref a_p0_state_seen, .int i_p0_state_seenDays, .int i_p0_state_bone, .int i_p0_state_king, .int i_p0_state_days])), (a_p0_state_spoons, .inl (G 1, 7, .inl v_p0_state_spoons))]) (va_runV (As := [.int x1]) (rest := []) ⟨hx, hb, hml, hown, hts⟩ (c_X6_hasSeat (l := l) (D := D) (G := G) (sz := H.size) (a_p0 := a_p0_rules) (a_p0_need := a_p0_rules_need) (a_p0_kind := a_p0_rules_kind) (a_p0_first := a_p0_rules_first) (a_p0_second := a_p0_rules_second) (a_p0_after := a_p0_rules_after) (i_p0_seats := i_p0_rules_seats) (i_p0_stirs := i_p0_rules_stirs) (x1 := x1) (r := z1) (hf := hcall)) (cwV 1 hts gX11_spoon_X6_hasSeat rfl rfl rfl (by decide +kernel) ⟨Nat.le_of_ble_eq_true rfl, Nat.le_of_ble_eq_true rfl⟩) (preG_V (ci := 6) (hP.sub [1] rfl) (hD.sub [1] rfl rfl) hK rfl rfl) rfl rfl hl.1 rfl (lv_room (Nat.le_of_ble_eq_true rfl)) dX11_spoon_5 ⟨Nat.le_of_ble_eq_true rfl, Nat.le_of_ble_eq_true rfl⟩) hP hD hS hA [1] [0, 2, 3] [0, 3, 1, 2] rfl rfl rfl (by decide) rfl rfl rfl (fun H locs hP hD hS => ?_)
  clear hcall
  refine lv_if_eq (tgt := 22) hx hb dX11_spoon_8 (by decide) (fun cc => ?_) (fun cc => ?_)
  ·
    replace hf := ite_t cc hf
    clear cc
    refine lv_iconst (v := (-1 : Int32)) hx hb dX11_spoon_22 (by decide) ?_
    obtain ⟨rfl, rfl⟩ := ou2 hf
    rw [hQ]
    exact W.iret hx hb hr (fun t ht hW => ⟨⟨_, (), rfl, rfl, by rw [ht]; exact hP, va_K.moved hW.alike hK, hD⟩, hS.F ht⟩) hS.2.2 dX11_spoon_23
  ·
    replace hf := ite_f cc hf
    clear cc
    refine lv_iload_n hx hb dX11_spoon_11 rfl (lv_at hl 2 rfl) ?_
    refine lv_iconst (v := (1 : Int32)) hx hb dX11_spoon_12 (by decide) ?_
    refine lv_icmp_lt (tgt := 22) hx hb dX11_spoon_13 (by decide) (fun cc => ?_) (fun cc => ?_)
    ·
      replace hf := ite_t cc hf
      clear cc
      refine lv_iconst (v := (-1 : Int32)) hx hb dX11_spoon_22 (by decide) ?_
      obtain ⟨rfl, rfl⟩ := ou2 hf
      rw [hQ]
      exact W.iret hx hb hr (fun t ht hW => ⟨⟨_, (), rfl, rfl, by rw [ht]; exact hP, va_K.moved hW.alike hK, hD⟩, hS.F ht⟩) hS.2.2 dX11_spoon_23
    ·
      replace hf := ite_f cc hf
      clear cc
      refine lv_iload_n hx hb dX11_spoon_16 rfl (lv_at hl 2 rfl) ?_
      refine lv_bipush (v := (9 : Int32)) hx hb dX11_spoon_17 (by decide) ?_
      refine lv_icmp_le (tgt := 24) hx hb dX11_spoon_19 (by decide) (fun cc => ?_) (fun cc => ?_)
      ·
        replace hf := ite_t cc hf
        clear cc
        refine lv_aload_n hx hb dX11_spoon_24 rfl (lv_at hl 0 rfl) ?_
        refine va_get (D := D) (ci := 11) (v := .ref a_p0_state) (C := RX11) (T := TX11) (N := 15) hx hb hts inX11_spoon_X11 hown hK hP 0 rfl rfl 1 (by decide) (hts _ mwX11_spoon_2) (fun _ h9 => h9) rfl dX11_spoon_25 ?_
        refine va_get (D := D) (ci := 8) (v := .ref a_p0_state_spoons) (C := RX8) (T := TX8) (N := 9) hx hb hts inX11_spoon_X8 hown hK hP 2 rfl rfl 2 (by decide) (hts _ mwX11_spoon_4) (fun _ h9 => h9) rfl dX11_spoon_28 ?_
        refine lv_iload_n hx hb dX11_spoon_31 rfl (lv_at hl 1 rfl) ?_
        have hc := ck_c hf
        replace hf := ck_r hf
        refine va_iald hx hb hK hP 3 1 rfl rfl (ixB_in hc) dX11_spoon_32 ?_
        clear hc
        refine lv_topi (fun z2 ez => ?_)
        replace hf := bnd_s hf ez
        clear ez
        refine lv_istore_n (lv' := [(3, .int z2), (0, .ref a_p0), (1, .int x1), (2, .int x2)]) hx hb dX11_spoon_33 rfl hl (by decide) rfl (fun ls hl => ?_)
        refine lv_aload_n hx hb dX11_spoon_34 rfl (lv_at hl 1 rfl) ?_
        refine va_get (D := D) (ci := 11) (v := .ref a_p0_state) (C := RX11) (T := TX11) (N := 15) hx hb hts inX11_spoon_X11 hown hK hP 0 rfl rfl 1 (by decide) (hts _ mwX11_spoon_2) (fun _ h9 => h9) rfl dX11_spoon_35 ?_
        refine va_get (D := D) (ci := 8) (v := .ref a_p0_state_spoons) (C := RX8) (T := TX8) (N := 9) hx hb hts inX11_spoon_X8 hown hK hP 2 rfl rfl 2 (by decide) (hts _ mwX11_spoon_4) (fun _ h9 => h9) rfl dX11_spoon_38 ?_
        refine lv_iload_n hx hb dX11_spoon_41 rfl (lv_at hl 2 rfl) ?_
        refine lv_iload_n hx hb dX11_spoon_42 rfl (lv_at hl 3 rfl) ?_
        have hc := ck_c hf
        replace hf := ck_r hf
        refine gs_iast (wf := fun w3 => [(a_p0, .inr (11, [.ref a_p0_rules, .ref a_p0_state, .ref a_p0_tape, .ref a_p0_reader, .ref a_p0_kitchen, .ref a_p0_luck, .ref a_p0_plans, .ref a_p0_coups, .ref a_p0_past, .ref a_p0_fairDays, .ref a_p0_images, .ref a_p0_imageHeld, .ref a_p0_sheets, .int i_p0_latestFault, .int i_p0_latestTear])), (a_p0_rules, .inr (6, [.int i_p0_rules_seats, .int i_p0_rules_stirs, .ref a_p0_rules_need, .ref a_p0_rules_kind, .ref a_p0_rules_first, .ref a_p0_rules_second, .ref a_p0_rules_after])), (a_p0_state, .inr (8, [.ref a_p0_state_pieces, .ref a_p0_state_friends, .ref a_p0_state_spoons, .ref a_p0_state_eaten, .ref a_p0_state_seen, .int i_p0_state_seenDays, .int i_p0_state_bone, .int i_p0_state_king, .int i_p0_state_days])), (a_p0_state_spoons, .inl (G 1, 7, .inl w3))]) hx hb hK hP hD hS 3 1 rfl rfl (ixB_in hc) dX11_spoon_43 (fun _ => rfl) (fun w3 ez H locs hP hD hS => ?_)
        replace hf := bnd_s hf ez
        clear ez hc
        refine lv_iload_n hx hb dX11_spoon_44 rfl (lv_at hl 0 rfl) ?_
        obtain ⟨rfl, rfl⟩ := ou2 hf
        rw [hQ]
        exact W.iret hx hb hr (fun t ht hW => ⟨⟨_, (), rfl, rfl, by rw [ht]; exact hP, va_K.moved hW.alike hK, hD⟩, hS.F ht⟩) hS.2.2 dX11_spoon_45
      ·
        replace hf := ite_f cc hf
        clear cc
        refine lv_iconst (v := (-1 : Int32)) hx hb dX11_spoon_22 (by decide) ?_
        obtain ⟨rfl, rfl⟩ := ou2 hf
        rw [hQ]
        exact W.iret hx hb hr (fun t ht hW => ⟨⟨_, (), rfl, rfl, by rw [ht]; exact hP, va_K.moved hW.alike hK, hD⟩, hS.F ht⟩) hS.2.2 dX11_spoon_23
