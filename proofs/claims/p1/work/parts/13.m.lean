noncomputable def f_X11_keep (i_p0_state_seenDays : Int32) (i_p0_state_bone : Int32) (i_p0_state_king : Int32) (i_p0_state_days : Int32) (v_p0_state_pieces : (Nat → Int32)) (v_p0_state_friends : (Nat → Int32)) (v_p0_state_spoons : (Nat → Int32)) (v_p0_state_eaten : (Nat → Int32)) (v_p0_state_seen : (Nat → Int32)) (i_p0_images_0_seenDays : Int32) (i_p0_images_0_bone : Int32) (i_p0_images_0_king : Int32) (i_p0_images_0_days : Int32) (v_p0_images_0_pieces : (Nat → Int32)) (v_p0_images_0_friends : (Nat → Int32)) (v_p0_images_0_spoons : (Nat → Int32)) (v_p0_images_0_eaten : (Nat → Int32)) (v_p0_images_0_seen : (Nat → Int32)) (i_p0_images_1_seenDays : Int32) (i_p0_images_1_bone : Int32) (i_p0_images_1_king : Int32) (i_p0_images_1_days : Int32) (v_p0_images_1_pieces : (Nat → Int32)) (v_p0_images_1_friends : (Nat → Int32)) (v_p0_images_1_spoons : (Nat → Int32)) (v_p0_images_1_eaten : (Nat → Int32)) (v_p0_images_1_seen : (Nat → Int32)) (v_p0_imageHeld : (Nat → Int32)) (x1 : Int32) : Option (Int32 × Int32 × Int32 × Int32 × Int32 × (Nat → Int32) × (Nat → Int32) × (Nat → Int32) × (Nat → Int32) × (Nat → Int32) × Int32 × Int32 × Int32 × Int32 × (Nat → Int32) × (Nat → Int32) × (Nat → Int32) × (Nat → Int32) × (Nat → Int32) × (Nat → Int32)) := (bd1 (f_X11_isImage x1) (fun (z1 : Int32) => (if z1 = 0 then (some ((-1 : Int32), i_p0_images_0_seenDays, i_p0_images_0_bone, i_p0_images_0_king, i_p0_images_0_days, v_p0_images_0_pieces, v_p0_images_0_friends, v_p0_images_0_spoons, v_p0_images_0_eaten, v_p0_images_0_seen, i_p0_images_1_seenDays, i_p0_images_1_bone, i_p0_images_1_king, i_p0_images_1_days, v_p0_images_1_pieces, v_p0_images_1_friends, v_p0_images_1_spoons, v_p0_images_1_eaten, v_p0_images_1_seen, v_p0_imageHeld)) else (ck (ixB x1 2) (jn (fun (z2 : Int32) => (bnd z2 (fun (z4 : Int32) => (ck (ixB x1 2) (if x1 = (0 : Int32) then (bd9 (f_X8_copy v_p0_images_0_pieces v_p0_images_0_friends v_p0_images_0_spoons v_p0_images_0_eaten v_p0_images_0_seen i_p0_state_seenDays i_p0_state_bone i_p0_state_king i_p0_state_days v_p0_state_pieces v_p0_state_friends v_p0_state_spoons v_p0_state_eaten v_p0_state_seen) (fun (z5 : Int32) (z6 : Int32) (z7 : Int32) (z8 : Int32) (w9 : (Nat → Int32)) (w10 : (Nat → Int32)) (w11 : (Nat → Int32)) (w12 : (Nat → Int32)) (w13 : (Nat → Int32)) => (ck (ixB x1 2) (bnd (upd v_p0_imageHeld (x1).toNatClampNeg (vp_nar .boolean (1 : Int32))) (fun (w14 : (Nat → Int32)) => (some (z4, z5, z6, z7, z8, w9, w10, w11, w12, w13, i_p0_images_1_seenDays, i_p0_images_1_bone, i_p0_images_1_king, i_p0_images_1_days, v_p0_images_1_pieces, v_p0_images_1_friends, v_p0_images_1_spoons, v_p0_images_1_eaten, v_p0_images_1_seen, w14))))))) else (if x1 = (1 : Int32) then (bd9 (f_X8_copy v_p0_images_1_pieces v_p0_images_1_friends v_p0_images_1_spoons v_p0_images_1_eaten v_p0_images_1_seen i_p0_state_seenDays i_p0_state_bone i_p0_state_king i_p0_state_days v_p0_state_pieces v_p0_state_friends v_p0_state_spoons v_p0_state_eaten v_p0_state_seen) (fun (z15 : Int32) (z16 : Int32) (z17 : Int32) (z18 : Int32) (w19 : (Nat → Int32)) (w20 : (Nat → Int32)) (w21 : (Nat → Int32)) (w22 : (Nat → Int32)) (w23 : (Nat → Int32)) => (ck (ixB x1 2) (bnd (upd v_p0_imageHeld (x1).toNatClampNeg (vp_nar .boolean (1 : Int32))) (fun (w24 : (Nat → Int32)) => (some (z4, i_p0_images_0_seenDays, i_p0_images_0_bone, i_p0_images_0_king, i_p0_images_0_days, v_p0_images_0_pieces, v_p0_images_0_friends, v_p0_images_0_spoons, v_p0_images_0_eaten, v_p0_images_0_seen, z15, z16, z17, z18, w19, w20, w21, w22, w23, w24))))))) else none)))))) (fun (J3 : Int32 → Option (Int32 × Int32 × Int32 × Int32 × Int32 × (Nat → Int32) × (Nat → Int32) × (Nat → Int32) × (Nat → Int32) × (Nat → Int32) × Int32 × Int32 × Int32 × Int32 × (Nat → Int32) × (Nat → Int32) × (Nat → Int32) × (Nat → Int32) × (Nat → Int32) × (Nat → Int32))) => (if (v_p0_imageHeld (x1).toNatClampNeg) = 0 then (J3 (0 : Int32)) else (J3 (1 : Int32)))))))))
abbrev rm_X11_keep : Room := { frames := 2, cells := 0, slots := 0, locals := 81 }
theorem inX11_keep_X11 : ∀ w ∈ wsX110, w ∈ wsX11_keep := by decide +kernel
theorem mwX11_keep_1 : Cond.fieldLink RX11 89 "LadleKings" "imageHeld" "[Z" ∈ wsX11_keep := by decide +kernel
theorem mwX11_keep_2 : Cond.fieldLink RX11 85 "LadleKings" "images" "[LLadleKings$State;" ∈ wsX11_keep := by decide +kernel
theorem mwX11_keep_3 : Cond.fieldLink RX11 19 "LadleKings" "state" "LLadleKings$State;" ∈ wsX11_keep := by decide +kernel
set_option maxHeartbeats 8000000 in
set_option maxRecDepth 100000 in
theorem c_X11_keep (l : Launch) (D : va_G) (G : Nat → ClassId) (sz : Nat) (a_p0 : Nat) (a_p0_rules : Nat) (a_p0_state : Nat) (a_p0_tape : Nat) (a_p0_reader : Nat) (a_p0_kitchen : Nat) (a_p0_luck : Nat) (a_p0_plans : Nat) (a_p0_coups : Nat) (a_p0_past : Nat) (a_p0_fairDays : Nat) (a_p0_images : Nat) (a_p0_imageHeld : Nat) (a_p0_sheets : Nat) (a_p0_state_pieces : Nat) (a_p0_state_friends : Nat) (a_p0_state_spoons : Nat) (a_p0_state_eaten : Nat) (a_p0_state_seen : Nat) (a_p0_images_0 : Nat) (a_p0_images_1 : Nat) (a_p0_images_0_pieces : Nat) (a_p0_images_0_friends : Nat) (a_p0_images_0_spoons : Nat) (a_p0_images_0_eaten : Nat) (a_p0_images_0_seen : Nat) (a_p0_images_1_pieces : Nat) (a_p0_images_1_friends : Nat) (a_p0_images_1_spoons : Nat) (a_p0_images_1_eaten : Nat) (a_p0_images_1_seen : Nat) (i_p0_latestFault : Int32) (i_p0_latestTear : Int32) (i_p0_state_seenDays : Int32) (i_p0_state_bone : Int32) (i_p0_state_king : Int32) (i_p0_state_days : Int32) (v_p0_state_pieces : (Nat → Int32)) (v_p0_state_friends : (Nat → Int32)) (v_p0_state_spoons : (Nat → Int32)) (v_p0_state_eaten : (Nat → Int32)) (v_p0_state_seen : (Nat → Int32)) (i_p0_images_0_seenDays : Int32) (i_p0_images_0_bone : Int32) (i_p0_images_0_king : Int32) (i_p0_images_0_days : Int32) (v_p0_images_0_pieces : (Nat → Int32)) (v_p0_images_0_friends : (Nat → Int32)) (v_p0_images_0_spoons : (Nat → Int32)) (v_p0_images_0_eaten : (Nat → Int32)) (v_p0_images_0_seen : (Nat → Int32)) (i_p0_images_1_seenDays : Int32) (i_p0_images_1_bone : Int32) (i_p0_images_1_king : Int32) (i_p0_images_1_days : Int32) (v_p0_images_1_pieces : (Nat → Int32)) (v_p0_images_1_friends : (Nat → Int32)) (v_p0_images_1_spoons : (Nat → Int32)) (v_p0_images_1_eaten : (Nat → Int32)) (v_p0_images_1_seen : (Nat → Int32)) (v_p0_imageHeld : (Nat → Int32)) (x1 : Int32) (r : Int32) (o_i_p0_images_0_seenDays : Int32) (o_i_p0_images_0_bone : Int32) (o_i_p0_images_0_king : Int32) (o_i_p0_images_0_days : Int32) (o_v_p0_images_0_pieces : (Nat → Int32)) (o_v_p0_images_0_friends : (Nat → Int32)) (o_v_p0_images_0_spoons : (Nat → Int32)) (o_v_p0_images_0_eaten : (Nat → Int32)) (o_v_p0_images_0_seen : (Nat → Int32)) (o_i_p0_images_1_seenDays : Int32) (o_i_p0_images_1_bone : Int32) (o_i_p0_images_1_king : Int32) (o_i_p0_images_1_days : Int32) (o_v_p0_images_1_pieces : (Nat → Int32)) (o_v_p0_images_1_friends : (Nat → Int32)) (o_v_p0_images_1_spoons : (Nat → Int32)) (o_v_p0_images_1_eaten : (Nat → Int32)) (o_v_p0_images_1_seen : (Nat → Int32)) (o_v_p0_imageHeld : (Nat → Int32)) (hf : f_X11_keep i_p0_state_seenDays i_p0_state_bone i_p0_state_king i_p0_state_days v_p0_state_pieces v_p0_state_friends v_p0_state_spoons v_p0_state_eaten v_p0_state_seen i_p0_images_0_seenDays i_p0_images_0_bone i_p0_images_0_king i_p0_images_0_days v_p0_images_0_pieces v_p0_images_0_friends v_p0_images_0_spoons v_p0_images_0_eaten v_p0_images_0_seen i_p0_images_1_seenDays i_p0_images_1_bone i_p0_images_1_king i_p0_images_1_days v_p0_images_1_pieces v_p0_images_1_friends v_p0_images_1_spoons v_p0_images_1_eaten v_p0_images_1_seen v_p0_imageHeld x1 = some (r, o_i_p0_images_0_seenDays, o_i_p0_images_0_bone, o_i_p0_images_0_king, o_i_p0_images_0_days, o_v_p0_images_0_pieces, o_v_p0_images_0_friends, o_v_p0_images_0_spoons, o_v_p0_images_0_eaten, o_v_p0_images_0_seen, o_i_p0_images_1_seenDays, o_i_p0_images_1_bone, o_i_p0_images_1_king, o_i_p0_images_1_days, o_v_p0_images_1_pieces, o_v_p0_images_1_friends, o_v_p0_images_1_spoons, o_v_p0_images_1_eaten, o_v_p0_images_1_seen, o_v_p0_imageHeld)) : Met l yX11_keep wsX11_keep rm_X11_keep (pcG D G [.ref a_p0, .int x1] sz [(a_p0, .inr (11, [.ref a_p0_rules, .ref a_p0_state, .ref a_p0_tape, .ref a_p0_reader, .ref a_p0_kitchen, .ref a_p0_luck, .ref a_p0_plans, .ref a_p0_coups, .ref a_p0_past, .ref a_p0_fairDays, .ref a_p0_images, .ref a_p0_imageHeld, .ref a_p0_sheets, .int i_p0_latestFault, .int i_p0_latestTear])), (a_p0_state, .inr (8, [.ref a_p0_state_pieces, .ref a_p0_state_friends, .ref a_p0_state_spoons, .ref a_p0_state_eaten, .ref a_p0_state_seen, .int i_p0_state_seenDays, .int i_p0_state_bone, .int i_p0_state_king, .int i_p0_state_days])), (a_p0_state_pieces, .inl (G 1, 7, .inl v_p0_state_pieces)), (a_p0_state_friends, .inl (G 1, 7, .inl v_p0_state_friends)), (a_p0_state_spoons, .inl (G 1, 7, .inl v_p0_state_spoons)), (a_p0_state_eaten, .inl (G 1, 7, .inl v_p0_state_eaten)), (a_p0_state_seen, .inl (G 1, 6, .inl v_p0_state_seen)), (a_p0_images, .inl (G 4, 2, .inr (.inr (.inr (.inr (va_up (va_up (fun _ => none) 0 (some a_p0_images_0)) 1 (some a_p0_images_1))))))), (a_p0_images_0, .inr (8, [.ref a_p0_images_0_pieces, .ref a_p0_images_0_friends, .ref a_p0_images_0_spoons, .ref a_p0_images_0_eaten, .ref a_p0_images_0_seen, .int i_p0_images_0_seenDays, .int i_p0_images_0_bone, .int i_p0_images_0_king, .int i_p0_images_0_days])), (a_p0_images_0_pieces, .inl (G 1, 7, .inl v_p0_images_0_pieces)), (a_p0_images_0_friends, .inl (G 1, 7, .inl v_p0_images_0_friends)), (a_p0_images_0_spoons, .inl (G 1, 7, .inl v_p0_images_0_spoons)), (a_p0_images_0_eaten, .inl (G 1, 7, .inl v_p0_images_0_eaten)), (a_p0_images_0_seen, .inl (G 1, 6, .inl v_p0_images_0_seen)), (a_p0_images_1, .inr (8, [.ref a_p0_images_1_pieces, .ref a_p0_images_1_friends, .ref a_p0_images_1_spoons, .ref a_p0_images_1_eaten, .ref a_p0_images_1_seen, .int i_p0_images_1_seenDays, .int i_p0_images_1_bone, .int i_p0_images_1_king, .int i_p0_images_1_days])), (a_p0_images_1_pieces, .inl (G 1, 7, .inl v_p0_images_1_pieces)), (a_p0_images_1_friends, .inl (G 1, 7, .inl v_p0_images_1_friends)), (a_p0_images_1_spoons, .inl (G 1, 7, .inl v_p0_images_1_spoons)), (a_p0_images_1_eaten, .inl (G 1, 7, .inl v_p0_images_1_eaten)), (a_p0_images_1_seen, .inl (G 1, 6, .inl v_p0_images_1_seen)), (a_p0_imageHeld, .inl (G 3, 2, .inl v_p0_imageHeld))]) (qcI D G r [(a_p0, .inr (11, [.ref a_p0_rules, .ref a_p0_state, .ref a_p0_tape, .ref a_p0_reader, .ref a_p0_kitchen, .ref a_p0_luck, .ref a_p0_plans, .ref a_p0_coups, .ref a_p0_past, .ref a_p0_fairDays, .ref a_p0_images, .ref a_p0_imageHeld, .ref a_p0_sheets, .int i_p0_latestFault, .int i_p0_latestTear])), (a_p0_state, .inr (8, [.ref a_p0_state_pieces, .ref a_p0_state_friends, .ref a_p0_state_spoons, .ref a_p0_state_eaten, .ref a_p0_state_seen, .int i_p0_state_seenDays, .int i_p0_state_bone, .int i_p0_state_king, .int i_p0_state_days])), (a_p0_state_pieces, .inl (G 1, 7, .inl v_p0_state_pieces)), (a_p0_state_friends, .inl (G 1, 7, .inl v_p0_state_friends)), (a_p0_state_spoons, .inl (G 1, 7, .inl v_p0_state_spoons)), (a_p0_state_eaten, .inl (G 1, 7, .inl v_p0_state_eaten)), (a_p0_state_seen, .inl (G 1, 6, .inl v_p0_state_seen)), (a_p0_images, .inl (G 4, 2, .inr (.inr (.inr (.inr (va_up (va_up (fun _ => none) 0 (some a_p0_images_0)) 1 (some a_p0_images_1))))))), (a_p0_images_0, .inr (8, [.ref a_p0_images_0_pieces, .ref a_p0_images_0_friends, .ref a_p0_images_0_spoons, .ref a_p0_images_0_eaten, .ref a_p0_images_0_seen, .int o_i_p0_images_0_seenDays, .int o_i_p0_images_0_bone, .int o_i_p0_images_0_king, .int o_i_p0_images_0_days])), (a_p0_images_0_pieces, .inl (G 1, 7, .inl o_v_p0_images_0_pieces)), (a_p0_images_0_friends, .inl (G 1, 7, .inl o_v_p0_images_0_friends)), (a_p0_images_0_spoons, .inl (G 1, 7, .inl o_v_p0_images_0_spoons)), (a_p0_images_0_eaten, .inl (G 1, 7, .inl o_v_p0_images_0_eaten)), (a_p0_images_0_seen, .inl (G 1, 6, .inl o_v_p0_images_0_seen)), (a_p0_images_1, .inr (8, [.ref a_p0_images_1_pieces, .ref a_p0_images_1_friends, .ref a_p0_images_1_spoons, .ref a_p0_images_1_eaten, .ref a_p0_images_1_seen, .int o_i_p0_images_1_seenDays, .int o_i_p0_images_1_bone, .int o_i_p0_images_1_king, .int o_i_p0_images_1_days])), (a_p0_images_1_pieces, .inl (G 1, 7, .inl o_v_p0_images_1_pieces)), (a_p0_images_1_friends, .inl (G 1, 7, .inl o_v_p0_images_1_friends)), (a_p0_images_1_spoons, .inl (G 1, 7, .inl o_v_p0_images_1_spoons)), (a_p0_images_1_eaten, .inl (G 1, 7, .inl o_v_p0_images_1_eaten)), (a_p0_images_1_seen, .inl (G 1, 6, .inl o_v_p0_images_1_seen)), (a_p0_imageHeld, .inl (G 3, 2, .inl o_v_p0_imageHeld))] (va_A [(a_p0, .inr (11, [.ref a_p0_rules, .ref a_p0_state, .ref a_p0_tape, .ref a_p0_reader, .ref a_p0_kitchen, .ref a_p0_luck, .ref a_p0_plans, .ref a_p0_coups, .ref a_p0_past, .ref a_p0_fairDays, .ref a_p0_images, .ref a_p0_imageHeld, .ref a_p0_sheets, .int i_p0_latestFault, .int i_p0_latestTear])), (a_p0_state, .inr (8, [.ref a_p0_state_pieces, .ref a_p0_state_friends, .ref a_p0_state_spoons, .ref a_p0_state_eaten, .ref a_p0_state_seen, .int i_p0_state_seenDays, .int i_p0_state_bone, .int i_p0_state_king, .int i_p0_state_days])), (a_p0_state_pieces, .inl (G 1, 7, .inl v_p0_state_pieces)), (a_p0_state_friends, .inl (G 1, 7, .inl v_p0_state_friends)), (a_p0_state_spoons, .inl (G 1, 7, .inl v_p0_state_spoons)), (a_p0_state_eaten, .inl (G 1, 7, .inl v_p0_state_eaten)), (a_p0_state_seen, .inl (G 1, 6, .inl v_p0_state_seen)), (a_p0_images, .inl (G 4, 2, .inr (.inr (.inr (.inr (va_up (va_up (fun _ => none) 0 (some a_p0_images_0)) 1 (some a_p0_images_1))))))), (a_p0_images_0, .inr (8, [.ref a_p0_images_0_pieces, .ref a_p0_images_0_friends, .ref a_p0_images_0_spoons, .ref a_p0_images_0_eaten, .ref a_p0_images_0_seen, .int i_p0_images_0_seenDays, .int i_p0_images_0_bone, .int i_p0_images_0_king, .int i_p0_images_0_days])), (a_p0_images_0_pieces, .inl (G 1, 7, .inl v_p0_images_0_pieces)), (a_p0_images_0_friends, .inl (G 1, 7, .inl v_p0_images_0_friends)), (a_p0_images_0_spoons, .inl (G 1, 7, .inl v_p0_images_0_spoons)), (a_p0_images_0_eaten, .inl (G 1, 7, .inl v_p0_images_0_eaten)), (a_p0_images_0_seen, .inl (G 1, 6, .inl v_p0_images_0_seen)), (a_p0_images_1, .inr (8, [.ref a_p0_images_1_pieces, .ref a_p0_images_1_friends, .ref a_p0_images_1_spoons, .ref a_p0_images_1_eaten, .ref a_p0_images_1_seen, .int i_p0_images_1_seenDays, .int i_p0_images_1_bone, .int i_p0_images_1_king, .int i_p0_images_1_days])), (a_p0_images_1_pieces, .inl (G 1, 7, .inl v_p0_images_1_pieces)), (a_p0_images_1_friends, .inl (G 1, 7, .inl v_p0_images_1_friends)), (a_p0_images_1_spoons, .inl (G 1, 7, .inl v_p0_images_1_spoons)), (a_p0_images_1_eaten, .inl (G 1, 7, .inl v_p0_images_1_eaten)), (a_p0_images_1_seen, .inl (G 1, 6, .inl v_p0_images_1_seen)), (a_p0_imageHeld, .inl (G 3, 2, .inl v_p0_imageHeld))] sz)) 0 0 (va_A [(a_p0, .inr (11, [.ref a_p0_rules, .ref a_p0_state, .ref a_p0_tape, .ref a_p0_reader, .ref a_p0_kitchen, .ref a_p0_luck, .ref a_p0_plans, .ref a_p0_coups, .ref a_p0_past, .ref a_p0_fairDays, .ref a_p0_images, .ref a_p0_imageHeld, .ref a_p0_sheets, .int i_p0_latestFault, .int i_p0_latestTear])), (a_p0_state, .inr (8, [.ref a_p0_state_pieces, .ref a_p0_state_friends, .ref a_p0_state_spoons, .ref a_p0_state_eaten, .ref a_p0_state_seen, .int i_p0_state_seenDays, .int i_p0_state_bone, .int i_p0_state_king, .int i_p0_state_days])), (a_p0_state_pieces, .inl (G 1, 7, .inl v_p0_state_pieces)), (a_p0_state_friends, .inl (G 1, 7, .inl v_p0_state_friends)), (a_p0_state_spoons, .inl (G 1, 7, .inl v_p0_state_spoons)), (a_p0_state_eaten, .inl (G 1, 7, .inl v_p0_state_eaten)), (a_p0_state_seen, .inl (G 1, 6, .inl v_p0_state_seen)), (a_p0_images, .inl (G 4, 2, .inr (.inr (.inr (.inr (va_up (va_up (fun _ => none) 0 (some a_p0_images_0)) 1 (some a_p0_images_1))))))), (a_p0_images_0, .inr (8, [.ref a_p0_images_0_pieces, .ref a_p0_images_0_friends, .ref a_p0_images_0_spoons, .ref a_p0_images_0_eaten, .ref a_p0_images_0_seen, .int i_p0_images_0_seenDays, .int i_p0_images_0_bone, .int i_p0_images_0_king, .int i_p0_images_0_days])), (a_p0_images_0_pieces, .inl (G 1, 7, .inl v_p0_images_0_pieces)), (a_p0_images_0_friends, .inl (G 1, 7, .inl v_p0_images_0_friends)), (a_p0_images_0_spoons, .inl (G 1, 7, .inl v_p0_images_0_spoons)), (a_p0_images_0_eaten, .inl (G 1, 7, .inl v_p0_images_0_eaten)), (a_p0_images_0_seen, .inl (G 1, 6, .inl v_p0_images_0_seen)), (a_p0_images_1, .inr (8, [.ref a_p0_images_1_pieces, .ref a_p0_images_1_friends, .ref a_p0_images_1_spoons, .ref a_p0_images_1_eaten, .ref a_p0_images_1_seen, .int i_p0_images_1_seenDays, .int i_p0_images_1_bone, .int i_p0_images_1_king, .int i_p0_images_1_days])), (a_p0_images_1_pieces, .inl (G 1, 7, .inl v_p0_images_1_pieces)), (a_p0_images_1_friends, .inl (G 1, 7, .inl v_p0_images_1_friends)), (a_p0_images_1_spoons, .inl (G 1, 7, .inl v_p0_images_1_spoons)), (a_p0_images_1_eaten, .inl (G 1, 7, .inl v_p0_images_1_eaten)), (a_p0_images_1_seen, .inl (G 1, 6, .inl v_p0_images_1_seen)), (a_p0_imageHeld, .inl (G 3, 2, .inl v_p0_imageHeld))] sz) := by
  refine Met.ofW (cc := cX11_keep) (maxL := 3) (ret := (some .int)) (by decide) rfl ?_
  intro p e s m args below meth c s₁ B hml hv
  obtain ⟨rfl, hsz, hP, hK, hD0⟩ := hv
  have hx := B.exec
  have hb := B.bytes
  have hr := B.returns
  have hts := atoms_spec (ws := wsX11_keep) B.pre
  have hown : s.vm.findClass RX11 = some m.cls := findClass_of_methodNamed B.named
  have hlocks := B.notSynchronized
  subst hsz
  have hD := hD0.self (sz := s.heap.size)
  generalize hAe : va_A [(a_p0, .inr (11, [.ref a_p0_rules, .ref a_p0_state, .ref a_p0_tape, .ref a_p0_reader, .ref a_p0_kitchen, .ref a_p0_luck, .ref a_p0_plans, .ref a_p0_coups, .ref a_p0_past, .ref a_p0_fairDays, .ref a_p0_images, .ref a_p0_imageHeld, .ref a_p0_sheets, .int i_p0_latestFault, .int i_p0_latestTear])), (a_p0_state, .inr (8, [.ref a_p0_state_pieces, .ref a_p0_state_friends, .ref a_p0_state_spoons, .ref a_p0_state_eaten, .ref a_p0_state_seen, .int i_p0_state_seenDays, .int i_p0_state_bone, .int i_p0_state_king, .int i_p0_state_days])), (a_p0_state_pieces, .inl (G 1, 7, .inl v_p0_state_pieces)), (a_p0_state_friends, .inl (G 1, 7, .inl v_p0_state_friends)), (a_p0_state_spoons, .inl (G 1, 7, .inl v_p0_state_spoons)), (a_p0_state_eaten, .inl (G 1, 7, .inl v_p0_state_eaten)), (a_p0_state_seen, .inl (G 1, 6, .inl v_p0_state_seen)), (a_p0_images, .inl (G 4, 2, .inr (.inr (.inr (.inr (va_up (va_up (fun _ => none) 0 (some a_p0_images_0)) 1 (some a_p0_images_1))))))), (a_p0_images_0, .inr (8, [.ref a_p0_images_0_pieces, .ref a_p0_images_0_friends, .ref a_p0_images_0_spoons, .ref a_p0_images_0_eaten, .ref a_p0_images_0_seen, .int i_p0_images_0_seenDays, .int i_p0_images_0_bone, .int i_p0_images_0_king, .int i_p0_images_0_days])), (a_p0_images_0_pieces, .inl (G 1, 7, .inl v_p0_images_0_pieces)), (a_p0_images_0_friends, .inl (G 1, 7, .inl v_p0_images_0_friends)), (a_p0_images_0_spoons, .inl (G 1, 7, .inl v_p0_images_0_spoons)), (a_p0_images_0_eaten, .inl (G 1, 7, .inl v_p0_images_0_eaten)), (a_p0_images_0_seen, .inl (G 1, 6, .inl v_p0_images_0_seen)), (a_p0_images_1, .inr (8, [.ref a_p0_images_1_pieces, .ref a_p0_images_1_friends, .ref a_p0_images_1_spoons, .ref a_p0_images_1_eaten, .ref a_p0_images_1_seen, .int i_p0_images_1_seenDays, .int i_p0_images_1_bone, .int i_p0_images_1_king, .int i_p0_images_1_days])), (a_p0_images_1_pieces, .inl (G 1, 7, .inl v_p0_images_1_pieces)), (a_p0_images_1_friends, .inl (G 1, 7, .inl v_p0_images_1_friends)), (a_p0_images_1_spoons, .inl (G 1, 7, .inl v_p0_images_1_spoons)), (a_p0_images_1_eaten, .inl (G 1, 7, .inl v_p0_images_1_eaten)), (a_p0_images_1_seen, .inl (G 1, 6, .inl v_p0_images_1_seen)), (a_p0_imageHeld, .inl (G 3, 2, .inl v_p0_imageHeld))] s.heap.size = A at hD ⊢
  have hA : ∀ q : Nat, s.heap.size ≤ q → A q := fun q h => by rw [← hAe]; exact Or.inr h
  clear hAe hD0
  have hS : va_S A s.heap s.heap [] := va_S.rf
  have hl := lv_entry ([.ref a_p0, .int x1]) (n := 3) (Nat.le_of_ble_eq_true rfl)
  rw [lg_entry_eq]
  generalize (lg_sl ([.ref a_p0, .int x1]) ++ List.replicate (3 - (lg_sl ([.ref a_p0, .int x1])).length) Slot.unset).toArray = ls at hl ⊢
  have hl : lv_has ls 3 [(0, .ref a_p0), (1, .int x1)] := hl
  refine W_nameQ (fun Q hQ => ?_)
  obtain ⟨H, hH⟩ : ∃ H, H = s.heap := ⟨_, rfl⟩
  replace hS : va_S A s.heap H [] := by rw [hH]; exact hS
  replace hP : va_P D vwCl [(a_p0, .inr (11, [.ref a_p0_rules, .ref a_p0_state, .ref a_p0_tape, .ref a_p0_reader, .ref a_p0_kitchen, .ref a_p0_luck, .ref a_p0_plans, .ref a_p0_coups, .ref a_p0_past, .ref a_p0_fairDays, .ref a_p0_images, .ref a_p0_imageHeld, .ref a_p0_sheets, .int i_p0_latestFault, .int i_p0_latestTear])), (a_p0_state, .inr (8, [.ref a_p0_state_pieces, .ref a_p0_state_friends, .ref a_p0_state_spoons, .ref a_p0_state_eaten, .ref a_p0_state_seen, .int i_p0_state_seenDays, .int i_p0_state_bone, .int i_p0_state_king, .int i_p0_state_days])), (a_p0_state_pieces, .inl (G 1, 7, .inl v_p0_state_pieces)), (a_p0_state_friends, .inl (G 1, 7, .inl v_p0_state_friends)), (a_p0_state_spoons, .inl (G 1, 7, .inl v_p0_state_spoons)), (a_p0_state_eaten, .inl (G 1, 7, .inl v_p0_state_eaten)), (a_p0_state_seen, .inl (G 1, 6, .inl v_p0_state_seen)), (a_p0_images, .inl (G 4, 2, .inr (.inr (.inr (.inr (va_up (va_up (fun _ => none) 0 (some a_p0_images_0)) 1 (some a_p0_images_1))))))), (a_p0_images_0, .inr (8, [.ref a_p0_images_0_pieces, .ref a_p0_images_0_friends, .ref a_p0_images_0_spoons, .ref a_p0_images_0_eaten, .ref a_p0_images_0_seen, .int i_p0_images_0_seenDays, .int i_p0_images_0_bone, .int i_p0_images_0_king, .int i_p0_images_0_days])), (a_p0_images_0_pieces, .inl (G 1, 7, .inl v_p0_images_0_pieces)), (a_p0_images_0_friends, .inl (G 1, 7, .inl v_p0_images_0_friends)), (a_p0_images_0_spoons, .inl (G 1, 7, .inl v_p0_images_0_spoons)), (a_p0_images_0_eaten, .inl (G 1, 7, .inl v_p0_images_0_eaten)), (a_p0_images_0_seen, .inl (G 1, 6, .inl v_p0_images_0_seen)), (a_p0_images_1, .inr (8, [.ref a_p0_images_1_pieces, .ref a_p0_images_1_friends, .ref a_p0_images_1_spoons, .ref a_p0_images_1_eaten, .ref a_p0_images_1_seen, .int i_p0_images_1_seenDays, .int i_p0_images_1_bone, .int i_p0_images_1_king, .int i_p0_images_1_days])), (a_p0_images_1_pieces, .inl (G 1, 7, .inl v_p0_images_1_pieces)), (a_p0_images_1_friends, .inl (G 1, 7, .inl v_p0_images_1_friends)), (a_p0_images_1_spoons, .inl (G 1, 7, .inl v_p0_images_1_spoons)), (a_p0_images_1_eaten, .inl (G 1, 7, .inl v_p0_images_1_eaten)), (a_p0_images_1_seen, .inl (G 1, 6, .inl v_p0_images_1_seen)), (a_p0_imageHeld, .inl (G 3, 2, .inl v_p0_imageHeld))] H := by rw [hH]; exact hP
  rw [← hH]
  clear hH
  unfold f_X11_keep at hf
  refine lv_iload_n hx hb dX11_keep_0 rfl (lv_at hl 1 rfl) ?_
  have hq := bd1_s hf
  clear hf
  obtain ⟨z1, hcall, hf⟩ := hq
  refine gcI (ws' := [(a_p0, .inr (11, [.ref a_p0_rules, .ref a_p0_state, .ref a_p0_tape, .ref a_p0_reader, .ref a_p0_kitchen, .ref a_p0_luck, .ref a_p0_plans, .ref a_p0_coups, .ref a_p0_past, .ref a_p0_fairDays, .ref a_p0_images, .ref a_p0_imageHeld, .ref a_p0_sheets, .int i_p0_latestFault, .int i_p0_latestTear])), (a_p0_state, .inr (8, [.ref a_p0_state_pieces, .ref a_p0_state_friends, .ref a_p0_state_spoons, .ref a_p0_state_eaten, .ref a_p0_state_seen, .int i_p0_state_seenDays, .int i_p0_state_bone, .int i_p0_state_king, .int i_p0_state_days])), (a_p0_state_pieces, .inl (G 1, 7, .inl v_p0_state_pieces)), (a_p0_state_friends, .inl (G 1, 7, .inl v_p0_state_friends)), (a_p0_state_spoons, .inl (G 1, 7, .inl v_p0_state_spoons)), (a_p0_state_eaten, .inl (G 1, 7, .inl v_p0_state_eaten)), (a_p0_state_seen, .inl (G 1, 6, .inl v_p0_state_seen)), (a_p0_images, .inl (G 4, 2, .inr (.inr (.inr (.inr (va_up (va_up (fun _ => none) 0 (some a_p0_images_0)) 1 (some a_p0_images_1))))))), (a_p0_images_0, .inr (8, [.ref a_p0_images_0_pieces, .ref a_p0_images_0_friends, .ref a_p0_images_0_spoons, .ref a_p0_images_0_eaten, .ref a_p0_images_0_seen, .int i_p0_images_0_seenDays, .int i_p0_images_0_bone, .int i_p0_images_0_king, .int i_p0_images_0_days])), (a_p0_images_0_pieces, .inl (G 1, 7, .inl v_p0_images_0_pieces)), (a_p0_images_0_friends, .inl (G 1, 7, .inl v_p0_images_0_friends)), (a_p0_images_0_spoons, .inl (G 1, 7, .inl v_p0_images_0_spoons)), (a_p0_images_0_eaten, .inl (G 1, 7, .inl v_p0_images_0_eaten)), (a_p0_images_0_seen, .inl (G 1, 6, .inl v_p0_images_0_seen)), (a_p0_images_1, .inr (8, [.ref a_p0_images_1_pieces, .ref a_p0_images_1_friends, .ref a_p0_images_1_spoons, .ref a_p0_images_1_eaten, .ref a_p0_images_1_seen, .int i_p0_images_1_seenDays, .int i_p0_images_1_bone, .int i_p0_images_1_king, .int i_p0_images_1_days])), (a_p0_images_1_pieces, .inl (G 1, 7, .inl v_p0_images_1_pieces)), (a_p0_images_1_friends, .inl (G 1, 7, .inl v_p0_images_1_friends)), (a_p0_images_1_spoons, .inl (G 1, 7, .inl v_p0_images_1_spoons)), (a_p0_images_1_eaten, .inl (G 1, 7, .inl v_p0_images_1_eaten)), (a_p0_images_1_seen, .inl (G 1, 6, .inl v_p0_images_1_seen)), (a_p0_imageHeld, .inl (G 3, 2, .inl v_p0_imageHeld))]) (va_runS (As := [.int x1]) (rest := []) ⟨hx, hb, hml, hown, hts⟩ (c_X11_isImage (l := l) (D := D) (G := G) (sz := H.size) (x0 := x1) (r := z1) (hf := hcall)) (va_cwS 1 hts gX11_keep_X11_isImage rfl rfl rfl (by decide +kernel) ⟨Nat.le_of_ble_eq_true rfl, Nat.le_of_ble_eq_true rfl⟩) (preG_S (hP.sub [] rfl) (hD.sub [] rfl rfl) hK) rfl rfl hl.1 rfl (lv_room (Nat.le_of_ble_eq_true rfl)) dX11_keep_1 ⟨Nat.le_of_ble_eq_true rfl, Nat.le_of_ble_eq_true rfl⟩) hP hD hS hA [] [0, 1, 2, 3, 4, 5, 6, 7, 8, 9, 10, 11, 12, 13, 14, 15, 16, 17, 18, 19, 20] [0, 1, 2, 3, 4, 5, 6, 7, 8, 9, 10, 11, 12, 13, 14, 15, 16, 17, 18, 19, 20] rfl rfl rfl (by decide) rfl rfl rfl (fun H locs hP hD hS => ?_)
  clear hcall
  refine lv_if_ne (tgt := 9) hx hb dX11_keep_4 (by decide) (fun cc => ?_) (fun cc => ?_)
  ·
    replace hf := ite_f cc hf
    clear cc
    refine lv_aload_n hx hb dX11_keep_9 rfl (lv_at hl 0 rfl) ?_
    refine va_get (D := D) (ci := 11) (v := .ref a_p0_imageHeld) (C := RX11) (T := TX11) (N := 15) hx hb hts inX11_keep_X11 hown hK hP 0 rfl rfl 11 (by decide) (hts _ mwX11_keep_1) (fun _ h9 => h9) rfl dX11_keep_10 ?_
    refine lv_iload_n hx hb dX11_keep_13 rfl (lv_at hl 1 rfl) ?_
    have hc := ck_c hf
    replace hf := ck_r hf
    refine va_zald hx hb hK hP 20 3 rfl rfl (ixB_in hc) dX11_keep_14 ?_
    clear hc
    have hq := jn_i hf
    clear hf
    obtain ⟨J3, eJ3, hf⟩ := hq
    have hJ3 : ∀ (z2 : Int32) (ls : Array Slot) (H : Heap) (locs : List Loc), lv_has ls 3 [(0, .ref a_p0), (1, .int x1)] → va_P D vwCl [(a_p0, .inr (11, [.ref a_p0_rules, .ref a_p0_state, .ref a_p0_tape, .ref a_p0_reader, .ref a_p0_kitchen, .ref a_p0_luck, .ref a_p0_plans, .ref a_p0_coups, .ref a_p0_past, .ref a_p0_fairDays, .ref a_p0_images, .ref a_p0_imageHeld, .ref a_p0_sheets, .int i_p0_latestFault, .int i_p0_latestTear])), (a_p0_state, .inr (8, [.ref a_p0_state_pieces, .ref a_p0_state_friends, .ref a_p0_state_spoons, .ref a_p0_state_eaten, .ref a_p0_state_seen, .int i_p0_state_seenDays, .int i_p0_state_bone, .int i_p0_state_king, .int i_p0_state_days])), (a_p0_state_pieces, .inl (G 1, 7, .inl v_p0_state_pieces)), (a_p0_state_friends, .inl (G 1, 7, .inl v_p0_state_friends)), (a_p0_state_spoons, .inl (G 1, 7, .inl v_p0_state_spoons)), (a_p0_state_eaten, .inl (G 1, 7, .inl v_p0_state_eaten)), (a_p0_state_seen, .inl (G 1, 6, .inl v_p0_state_seen)), (a_p0_images, .inl (G 4, 2, .inr (.inr (.inr (.inr (va_up (va_up (fun _ => none) 0 (some a_p0_images_0)) 1 (some a_p0_images_1))))))), (a_p0_images_0, .inr (8, [.ref a_p0_images_0_pieces, .ref a_p0_images_0_friends, .ref a_p0_images_0_spoons, .ref a_p0_images_0_eaten, .ref a_p0_images_0_seen, .int i_p0_images_0_seenDays, .int i_p0_images_0_bone, .int i_p0_images_0_king, .int i_p0_images_0_days])), (a_p0_images_0_pieces, .inl (G 1, 7, .inl v_p0_images_0_pieces)), (a_p0_images_0_friends, .inl (G 1, 7, .inl v_p0_images_0_friends)), (a_p0_images_0_spoons, .inl (G 1, 7, .inl v_p0_images_0_spoons)), (a_p0_images_0_eaten, .inl (G 1, 7, .inl v_p0_images_0_eaten)), (a_p0_images_0_seen, .inl (G 1, 6, .inl v_p0_images_0_seen)), (a_p0_images_1, .inr (8, [.ref a_p0_images_1_pieces, .ref a_p0_images_1_friends, .ref a_p0_images_1_spoons, .ref a_p0_images_1_eaten, .ref a_p0_images_1_seen, .int i_p0_images_1_seenDays, .int i_p0_images_1_bone, .int i_p0_images_1_king, .int i_p0_images_1_days])), (a_p0_images_1_pieces, .inl (G 1, 7, .inl v_p0_images_1_pieces)), (a_p0_images_1_friends, .inl (G 1, 7, .inl v_p0_images_1_friends)), (a_p0_images_1_spoons, .inl (G 1, 7, .inl v_p0_images_1_spoons)), (a_p0_images_1_eaten, .inl (G 1, 7, .inl v_p0_images_1_eaten)), (a_p0_images_1_seen, .inl (G 1, 6, .inl v_p0_images_1_seen)), (a_p0_imageHeld, .inl (G 3, 2, .inl v_p0_imageHeld))] H → va_D A [(a_p0, .inr (11, [.ref a_p0_rules, .ref a_p0_state, .ref a_p0_tape, .ref a_p0_reader, .ref a_p0_kitchen, .ref a_p0_luck, .ref a_p0_plans, .ref a_p0_coups, .ref a_p0_past, .ref a_p0_fairDays, .ref a_p0_images, .ref a_p0_imageHeld, .ref a_p0_sheets, .int i_p0_latestFault, .int i_p0_latestTear])), (a_p0_state, .inr (8, [.ref a_p0_state_pieces, .ref a_p0_state_friends, .ref a_p0_state_spoons, .ref a_p0_state_eaten, .ref a_p0_state_seen, .int i_p0_state_seenDays, .int i_p0_state_bone, .int i_p0_state_king, .int i_p0_state_days])), (a_p0_state_pieces, .inl (G 1, 7, .inl v_p0_state_pieces)), (a_p0_state_friends, .inl (G 1, 7, .inl v_p0_state_friends)), (a_p0_state_spoons, .inl (G 1, 7, .inl v_p0_state_spoons)), (a_p0_state_eaten, .inl (G 1, 7, .inl v_p0_state_eaten)), (a_p0_state_seen, .inl (G 1, 6, .inl v_p0_state_seen)), (a_p0_images, .inl (G 4, 2, .inr (.inr (.inr (.inr (va_up (va_up (fun _ => none) 0 (some a_p0_images_0)) 1 (some a_p0_images_1))))))), (a_p0_images_0, .inr (8, [.ref a_p0_images_0_pieces, .ref a_p0_images_0_friends, .ref a_p0_images_0_spoons, .ref a_p0_images_0_eaten, .ref a_p0_images_0_seen, .int i_p0_images_0_seenDays, .int i_p0_images_0_bone, .int i_p0_images_0_king, .int i_p0_images_0_days])), (a_p0_images_0_pieces, .inl (G 1, 7, .inl v_p0_images_0_pieces)), (a_p0_images_0_friends, .inl (G 1, 7, .inl v_p0_images_0_friends)), (a_p0_images_0_spoons, .inl (G 1, 7, .inl v_p0_images_0_spoons)), (a_p0_images_0_eaten, .inl (G 1, 7, .inl v_p0_images_0_eaten)), (a_p0_images_0_seen, .inl (G 1, 6, .inl v_p0_images_0_seen)), (a_p0_images_1, .inr (8, [.ref a_p0_images_1_pieces, .ref a_p0_images_1_friends, .ref a_p0_images_1_spoons, .ref a_p0_images_1_eaten, .ref a_p0_images_1_seen, .int i_p0_images_1_seenDays, .int i_p0_images_1_bone, .int i_p0_images_1_king, .int i_p0_images_1_days])), (a_p0_images_1_pieces, .inl (G 1, 7, .inl v_p0_images_1_pieces)), (a_p0_images_1_friends, .inl (G 1, 7, .inl v_p0_images_1_friends)), (a_p0_images_1_spoons, .inl (G 1, 7, .inl v_p0_images_1_spoons)), (a_p0_images_1_eaten, .inl (G 1, 7, .inl v_p0_images_1_eaten)), (a_p0_images_1_seen, .inl (G 1, 6, .inl v_p0_images_1_seen)), (a_p0_imageHeld, .inl (G 3, 2, .inl v_p0_imageHeld))] → va_S A s.heap H locs → J3 z2 = some (r, o_i_p0_images_0_seenDays, o_i_p0_images_0_bone, o_i_p0_images_0_king, o_i_p0_images_0_days, o_v_p0_images_0_pieces, o_v_p0_images_0_friends, o_v_p0_images_0_spoons, o_v_p0_images_0_eaten, o_v_p0_images_0_seen, o_i_p0_images_1_seenDays, o_i_p0_images_1_bone, o_i_p0_images_1_king, o_i_p0_images_1_days, o_v_p0_images_1_pieces, o_v_p0_images_1_friends, o_v_p0_images_1_spoons, o_v_p0_images_1_eaten, o_v_p0_images_1_seen, o_v_p0_imageHeld) → W p l e rm_X11_keep s m ([.ref a_p0, .int x1] : List Value).toArray below meth c H locs 0 0 Q (F0 m 23 ls [.int z2]) := by
      clear hf hl hP hD hS
      intro z2 ls H locs hl hP hD hS hf
      replace hf := jn1_s eJ3 hf
      refine lv_topi (fun z4 ez => ?_)
      replace hf := bnd_s hf ez
      clear ez
      refine lv_istore_n (lv' := [(2, .int z4), (0, .ref a_p0), (1, .int x1)]) hx hb dX11_keep_23 rfl hl (by decide) rfl (fun ls hl => ?_)
      refine lv_aload_n hx hb dX11_keep_24 rfl (lv_at hl 1 rfl) ?_
      refine va_get (D := D) (ci := 11) (v := .ref a_p0_images) (C := RX11) (T := TX11) (N := 15) hx hb hts inX11_keep_X11 hown hK hP 0 rfl rfl 10 (by decide) (hts _ mwX11_keep_2) (fun _ h9 => h9) rfl dX11_keep_25 ?_
      refine lv_iload_n hx hb dX11_keep_28 rfl (lv_at hl 2 rfl) ?_
      have hc := ck_c hf
      replace hf := ck_r hf
      refine va_aldq hx hb hK hP 7 4 rfl rfl (ixB_in hc) dX11_keep_29 ?_
      clear hc
      rcases Decidable.em (x1 = (0 : Int32)) with cc | cc
      ·
        replace hf := ite_t cc hf
        refine W.eq (g2 := F0 m 30 ls [.ref a_p0_images_0]) (by rw [cc]; rfl) ?_
        clear cc
        refine lv_aload_n hx hb dX11_keep_30 rfl (lv_at hl 1 rfl) ?_
        refine va_get (D := D) (ci := 11) (v := .ref a_p0_state) (C := RX11) (T := TX11) (N := 15) hx hb hts inX11_keep_X11 hown hK hP 0 rfl rfl 1 (by decide) (hts _ mwX11_keep_3) (fun _ h9 => h9) rfl dX11_keep_31 ?_
        have hq := bd9_s hf
        clear hf
        obtain ⟨z5, z6, z7, z8, w9, w10, w11, w12, w13, hcall, hf⟩ := hq
        refine gcV (ws' := [(a_p0, .inr (11, [.ref a_p0_rules, .ref a_p0_state, .ref a_p0_tape, .ref a_p0_reader, .ref a_p0_kitchen, .ref a_p0_luck, .ref a_p0_plans, .ref a_p0_coups, .ref a_p0_past, .ref a_p0_fairDays, .ref a_p0_images, .ref a_p0_imageHeld, .ref a_p0_sheets, .int i_p0_latestFault, .int i_p0_latestTear])), (a_p0_state, .inr (8, [.ref a_p0_state_pieces, .ref a_p0_state_friends, .ref a_p0_state_spoons, .ref a_p0_state_eaten, .ref a_p0_state_seen, .int i_p0_state_seenDays, .int i_p0_state_bone, .int i_p0_state_king, .int i_p0_state_days])), (a_p0_state_pieces, .inl (G 1, 7, .inl v_p0_state_pieces)), (a_p0_state_friends, .inl (G 1, 7, .inl v_p0_state_friends)), (a_p0_state_spoons, .inl (G 1, 7, .inl v_p0_state_spoons)), (a_p0_state_eaten, .inl (G 1, 7, .inl v_p0_state_eaten)), (a_p0_state_seen, .inl (G 1, 6, .inl v_p0_state_seen)), (a_p0_images, .inl (G 4, 2, .inr (.inr (.inr (.inr (va_up (va_up (fun _ => none) 0 (some a_p0_images_0)) 1 (some a_p0_images_1))))))), (a_p0_images_0, .inr (8, [.ref a_p0_images_0_pieces, .ref a_p0_images_0_friends, .ref a_p0_images_0_spoons, .ref a_p0_images_0_eaten, .ref a_p0_images_0_seen, .int z5, .int z6, .int z7, .int z8])), (a_p0_images_0_pieces, .inl (G 1, 7, .inl w9)), (a_p0_images_0_friends, .inl (G 1, 7, .inl w10)), (a_p0_images_0_spoons, .inl (G 1, 7, .inl w11)), (a_p0_images_0_eaten, .inl (G 1, 7, .inl w12)), (a_p0_images_0_seen, .inl (G 1, 6, .inl w13)), (a_p0_images_1, .inr (8, [.ref a_p0_images_1_pieces, .ref a_p0_images_1_friends, .ref a_p0_images_1_spoons, .ref a_p0_images_1_eaten, .ref a_p0_images_1_seen, .int i_p0_images_1_seenDays, .int i_p0_images_1_bone, .int i_p0_images_1_king, .int i_p0_images_1_days])), (a_p0_images_1_pieces, .inl (G 1, 7, .inl v_p0_images_1_pieces)), (a_p0_images_1_friends, .inl (G 1, 7, .inl v_p0_images_1_friends)), (a_p0_images_1_spoons, .inl (G 1, 7, .inl v_p0_images_1_spoons)), (a_p0_images_1_eaten, .inl (G 1, 7, .inl v_p0_images_1_eaten)), (a_p0_images_1_seen, .inl (G 1, 6, .inl v_p0_images_1_seen)), (a_p0_imageHeld, .inl (G 3, 2, .inl v_p0_imageHeld))]) (va_runV (As := [.ref a_p0_state]) (rest := []) ⟨hx, hb, hml, hown, hts⟩ (c_X8_copy (l := l) (D := D) (G := G) (sz := H.size) (a_p0 := a_p0_images_0) (a_p0_pieces := a_p0_images_0_pieces) (a_p0_friends := a_p0_images_0_friends) (a_p0_spoons := a_p0_images_0_spoons) (a_p0_eaten := a_p0_images_0_eaten) (a_p0_seen := a_p0_images_0_seen) (a_p1 := a_p0_state) (a_p1_pieces := a_p0_state_pieces) (a_p1_friends := a_p0_state_friends) (a_p1_spoons := a_p0_state_spoons) (a_p1_eaten := a_p0_state_eaten) (a_p1_seen := a_p0_state_seen) (i_p0_seenDays := i_p0_images_0_seenDays) (i_p0_bone := i_p0_images_0_bone) (i_p0_king := i_p0_images_0_king) (i_p0_days := i_p0_images_0_days) (v_p0_pieces := v_p0_images_0_pieces) (v_p0_friends := v_p0_images_0_friends) (v_p0_spoons := v_p0_images_0_spoons) (v_p0_eaten := v_p0_images_0_eaten) (v_p0_seen := v_p0_images_0_seen) (i_p1_seenDays := i_p0_state_seenDays) (i_p1_bone := i_p0_state_bone) (i_p1_king := i_p0_state_king) (i_p1_days := i_p0_state_days) (v_p1_pieces := v_p0_state_pieces) (v_p1_friends := v_p0_state_friends) (v_p1_spoons := v_p0_state_spoons) (v_p1_eaten := v_p0_state_eaten) (v_p1_seen := v_p0_state_seen) (o_i_p0_seenDays := z5) (o_i_p0_bone := z6) (o_i_p0_king := z7) (o_i_p0_days := z8) (o_v_p0_pieces := w9) (o_v_p0_friends := w10) (o_v_p0_spoons := w11) (o_v_p0_eaten := w12) (o_v_p0_seen := w13) (hf := hcall)) (cwV 1 hts gX11_keep_X8_copy rfl rfl rfl (by decide +kernel) ⟨Nat.le_of_ble_eq_true rfl, Nat.le_of_ble_eq_true rfl⟩) (preG_V (ci := 8) (hP.sub [8, 9, 10, 11, 12, 13, 1, 2, 3, 4, 5, 6] rfl) (hD.sub [8, 9, 10, 11, 12, 13, 1, 2, 3, 4, 5, 6] rfl rfl) hK rfl rfl) rfl rfl hl.1 rfl (lv_room (Nat.le_of_ble_eq_true rfl)) dX11_keep_34 ⟨Nat.le_of_ble_eq_true rfl, Nat.le_of_ble_eq_true rfl⟩) hP hD hS hA [8, 9, 10, 11, 12, 13, 1, 2, 3, 4, 5, 6] [0, 7, 14, 15, 16, 17, 18, 19, 20] [0, 15, 16, 17, 18, 19, 20, 1, 9, 10, 11, 12, 13, 14, 2, 3, 4, 5, 6, 7, 8] rfl rfl rfl (by decide) rfl rfl rfl (fun H locs hP hD hS => ?_)
        clear hcall
        refine lv_aload_n hx hb dX11_keep_37 rfl (lv_at hl 1 rfl) ?_
        refine va_get (D := D) (ci := 11) (v := .ref a_p0_imageHeld) (C := RX11) (T := TX11) (N := 15) hx hb hts inX11_keep_X11 hown hK hP 0 rfl rfl 11 (by decide) (hts _ mwX11_keep_1) (fun _ h9 => h9) rfl dX11_keep_38 ?_
        refine lv_iload_n hx hb dX11_keep_41 rfl (lv_at hl 2 rfl) ?_
        refine lv_iconst (v := (1 : Int32)) hx hb dX11_keep_42 (by decide) ?_
        have hc := ck_c hf
        replace hf := ck_r hf
        refine gs_zast (wf := fun w14 => [(a_p0, .inr (11, [.ref a_p0_rules, .ref a_p0_state, .ref a_p0_tape, .ref a_p0_reader, .ref a_p0_kitchen, .ref a_p0_luck, .ref a_p0_plans, .ref a_p0_coups, .ref a_p0_past, .ref a_p0_fairDays, .ref a_p0_images, .ref a_p0_imageHeld, .ref a_p0_sheets, .int i_p0_latestFault, .int i_p0_latestTear])), (a_p0_state, .inr (8, [.ref a_p0_state_pieces, .ref a_p0_state_friends, .ref a_p0_state_spoons, .ref a_p0_state_eaten, .ref a_p0_state_seen, .int i_p0_state_seenDays, .int i_p0_state_bone, .int i_p0_state_king, .int i_p0_state_days])), (a_p0_state_pieces, .inl (G 1, 7, .inl v_p0_state_pieces)), (a_p0_state_friends, .inl (G 1, 7, .inl v_p0_state_friends)), (a_p0_state_spoons, .inl (G 1, 7, .inl v_p0_state_spoons)), (a_p0_state_eaten, .inl (G 1, 7, .inl v_p0_state_eaten)), (a_p0_state_seen, .inl (G 1, 6, .inl v_p0_state_seen)), (a_p0_images, .inl (G 4, 2, .inr (.inr (.inr (.inr (va_up (va_up (fun _ => none) 0 (some a_p0_images_0)) 1 (some a_p0_images_1))))))), (a_p0_images_0, .inr (8, [.ref a_p0_images_0_pieces, .ref a_p0_images_0_friends, .ref a_p0_images_0_spoons, .ref a_p0_images_0_eaten, .ref a_p0_images_0_seen, .int z5, .int z6, .int z7, .int z8])), (a_p0_images_0_pieces, .inl (G 1, 7, .inl w9)), (a_p0_images_0_friends, .inl (G 1, 7, .inl w10)), (a_p0_images_0_spoons, .inl (G 1, 7, .inl w11)), (a_p0_images_0_eaten, .inl (G 1, 7, .inl w12)), (a_p0_images_0_seen, .inl (G 1, 6, .inl w13)), (a_p0_images_1, .inr (8, [.ref a_p0_images_1_pieces, .ref a_p0_images_1_friends, .ref a_p0_images_1_spoons, .ref a_p0_images_1_eaten, .ref a_p0_images_1_seen, .int i_p0_images_1_seenDays, .int i_p0_images_1_bone, .int i_p0_images_1_king, .int i_p0_images_1_days])), (a_p0_images_1_pieces, .inl (G 1, 7, .inl v_p0_images_1_pieces)), (a_p0_images_1_friends, .inl (G 1, 7, .inl v_p0_images_1_friends)), (a_p0_images_1_spoons, .inl (G 1, 7, .inl v_p0_images_1_spoons)), (a_p0_images_1_eaten, .inl (G 1, 7, .inl v_p0_images_1_eaten)), (a_p0_images_1_seen, .inl (G 1, 6, .inl v_p0_images_1_seen)), (a_p0_imageHeld, .inl (G 3, 2, .inl w14))]) hx hb hK hP hD hS 20 3 rfl rfl (ixB_in hc) dX11_keep_43 (fun _ => rfl) (fun w14 ez H locs hP hD hS => ?_)
        replace hf := bnd_s hf ez
        clear ez hc
        refine lv_iload_n hx hb dX11_keep_44 rfl (lv_at hl 0 rfl) ?_
        obtain ⟨rfl, rfl, rfl, rfl, rfl, rfl, rfl, rfl, rfl, rfl, rfl, rfl, rfl, rfl, rfl, rfl, rfl, rfl, rfl, rfl⟩ := ou20 hf
        rw [hQ]
        exact W.iret hx hb hr (fun t ht hW => ⟨⟨_, (), rfl, rfl, by rw [ht]; exact hP, va_K.moved hW.alike hK, hD⟩, hS.F ht⟩) hS.2.2 dX11_keep_45
      replace hf := ite_f cc hf
      clear cc
      rcases Decidable.em (x1 = (1 : Int32)) with cc | cc
      ·
        replace hf := ite_t cc hf
        refine W.eq (g2 := F0 m 30 ls [.ref a_p0_images_1]) (by rw [cc]; rfl) ?_
        clear cc
        refine lv_aload_n hx hb dX11_keep_30 rfl (lv_at hl 1 rfl) ?_
        refine va_get (D := D) (ci := 11) (v := .ref a_p0_state) (C := RX11) (T := TX11) (N := 15) hx hb hts inX11_keep_X11 hown hK hP 0 rfl rfl 1 (by decide) (hts _ mwX11_keep_3) (fun _ h9 => h9) rfl dX11_keep_31 ?_
        have hq := bd9_s hf
        clear hf
        obtain ⟨z15, z16, z17, z18, w19, w20, w21, w22, w23, hcall, hf⟩ := hq
        refine gcV (ws' := [(a_p0, .inr (11, [.ref a_p0_rules, .ref a_p0_state, .ref a_p0_tape, .ref a_p0_reader, .ref a_p0_kitchen, .ref a_p0_luck, .ref a_p0_plans, .ref a_p0_coups, .ref a_p0_past, .ref a_p0_fairDays, .ref a_p0_images, .ref a_p0_imageHeld, .ref a_p0_sheets, .int i_p0_latestFault, .int i_p0_latestTear])), (a_p0_state, .inr (8, [.ref a_p0_state_pieces, .ref a_p0_state_friends, .ref a_p0_state_spoons, .ref a_p0_state_eaten, .ref a_p0_state_seen, .int i_p0_state_seenDays, .int i_p0_state_bone, .int i_p0_state_king, .int i_p0_state_days])), (a_p0_state_pieces, .inl (G 1, 7, .inl v_p0_state_pieces)), (a_p0_state_friends, .inl (G 1, 7, .inl v_p0_state_friends)), (a_p0_state_spoons, .inl (G 1, 7, .inl v_p0_state_spoons)), (a_p0_state_eaten, .inl (G 1, 7, .inl v_p0_state_eaten)), (a_p0_state_seen, .inl (G 1, 6, .inl v_p0_state_seen)), (a_p0_images, .inl (G 4, 2, .inr (.inr (.inr (.inr (va_up (va_up (fun _ => none) 0 (some a_p0_images_0)) 1 (some a_p0_images_1))))))), (a_p0_images_0, .inr (8, [.ref a_p0_images_0_pieces, .ref a_p0_images_0_friends, .ref a_p0_images_0_spoons, .ref a_p0_images_0_eaten, .ref a_p0_images_0_seen, .int i_p0_images_0_seenDays, .int i_p0_images_0_bone, .int i_p0_images_0_king, .int i_p0_images_0_days])), (a_p0_images_0_pieces, .inl (G 1, 7, .inl v_p0_images_0_pieces)), (a_p0_images_0_friends, .inl (G 1, 7, .inl v_p0_images_0_friends)), (a_p0_images_0_spoons, .inl (G 1, 7, .inl v_p0_images_0_spoons)), (a_p0_images_0_eaten, .inl (G 1, 7, .inl v_p0_images_0_eaten)), (a_p0_images_0_seen, .inl (G 1, 6, .inl v_p0_images_0_seen)), (a_p0_images_1, .inr (8, [.ref a_p0_images_1_pieces, .ref a_p0_images_1_friends, .ref a_p0_images_1_spoons, .ref a_p0_images_1_eaten, .ref a_p0_images_1_seen, .int z15, .int z16, .int z17, .int z18])), (a_p0_images_1_pieces, .inl (G 1, 7, .inl w19)), (a_p0_images_1_friends, .inl (G 1, 7, .inl w20)), (a_p0_images_1_spoons, .inl (G 1, 7, .inl w21)), (a_p0_images_1_eaten, .inl (G 1, 7, .inl w22)), (a_p0_images_1_seen, .inl (G 1, 6, .inl w23)), (a_p0_imageHeld, .inl (G 3, 2, .inl v_p0_imageHeld))]) (va_runV (As := [.ref a_p0_state]) (rest := []) ⟨hx, hb, hml, hown, hts⟩ (c_X8_copy (l := l) (D := D) (G := G) (sz := H.size) (a_p0 := a_p0_images_1) (a_p0_pieces := a_p0_images_1_pieces) (a_p0_friends := a_p0_images_1_friends) (a_p0_spoons := a_p0_images_1_spoons) (a_p0_eaten := a_p0_images_1_eaten) (a_p0_seen := a_p0_images_1_seen) (a_p1 := a_p0_state) (a_p1_pieces := a_p0_state_pieces) (a_p1_friends := a_p0_state_friends) (a_p1_spoons := a_p0_state_spoons) (a_p1_eaten := a_p0_state_eaten) (a_p1_seen := a_p0_state_seen) (i_p0_seenDays := i_p0_images_1_seenDays) (i_p0_bone := i_p0_images_1_bone) (i_p0_king := i_p0_images_1_king) (i_p0_days := i_p0_images_1_days) (v_p0_pieces := v_p0_images_1_pieces) (v_p0_friends := v_p0_images_1_friends) (v_p0_spoons := v_p0_images_1_spoons) (v_p0_eaten := v_p0_images_1_eaten) (v_p0_seen := v_p0_images_1_seen) (i_p1_seenDays := i_p0_state_seenDays) (i_p1_bone := i_p0_state_bone) (i_p1_king := i_p0_state_king) (i_p1_days := i_p0_state_days) (v_p1_pieces := v_p0_state_pieces) (v_p1_friends := v_p0_state_friends) (v_p1_spoons := v_p0_state_spoons) (v_p1_eaten := v_p0_state_eaten) (v_p1_seen := v_p0_state_seen) (o_i_p0_seenDays := z15) (o_i_p0_bone := z16) (o_i_p0_king := z17) (o_i_p0_days := z18) (o_v_p0_pieces := w19) (o_v_p0_friends := w20) (o_v_p0_spoons := w21) (o_v_p0_eaten := w22) (o_v_p0_seen := w23) (hf := hcall)) (cwV 1 hts gX11_keep_X8_copy rfl rfl rfl (by decide +kernel) ⟨Nat.le_of_ble_eq_true rfl, Nat.le_of_ble_eq_true rfl⟩) (preG_V (ci := 8) (hP.sub [14, 15, 16, 17, 18, 19, 1, 2, 3, 4, 5, 6] rfl) (hD.sub [14, 15, 16, 17, 18, 19, 1, 2, 3, 4, 5, 6] rfl rfl) hK rfl rfl) rfl rfl hl.1 rfl (lv_room (Nat.le_of_ble_eq_true rfl)) dX11_keep_34 ⟨Nat.le_of_ble_eq_true rfl, Nat.le_of_ble_eq_true rfl⟩) hP hD hS hA [14, 15, 16, 17, 18, 19, 1, 2, 3, 4, 5, 6] [0, 7, 8, 9, 10, 11, 12, 13, 20] [0, 15, 16, 17, 18, 19, 20, 1, 2, 3, 4, 5, 6, 7, 9, 10, 11, 12, 13, 14, 8] rfl rfl rfl (by decide) rfl rfl rfl (fun H locs hP hD hS => ?_)
        clear hcall
        refine lv_aload_n hx hb dX11_keep_37 rfl (lv_at hl 1 rfl) ?_
        refine va_get (D := D) (ci := 11) (v := .ref a_p0_imageHeld) (C := RX11) (T := TX11) (N := 15) hx hb hts inX11_keep_X11 hown hK hP 0 rfl rfl 11 (by decide) (hts _ mwX11_keep_1) (fun _ h9 => h9) rfl dX11_keep_38 ?_
        refine lv_iload_n hx hb dX11_keep_41 rfl (lv_at hl 2 rfl) ?_
        refine lv_iconst (v := (1 : Int32)) hx hb dX11_keep_42 (by decide) ?_
        have hc := ck_c hf
        replace hf := ck_r hf
        refine gs_zast (wf := fun w24 => [(a_p0, .inr (11, [.ref a_p0_rules, .ref a_p0_state, .ref a_p0_tape, .ref a_p0_reader, .ref a_p0_kitchen, .ref a_p0_luck, .ref a_p0_plans, .ref a_p0_coups, .ref a_p0_past, .ref a_p0_fairDays, .ref a_p0_images, .ref a_p0_imageHeld, .ref a_p0_sheets, .int i_p0_latestFault, .int i_p0_latestTear])), (a_p0_state, .inr (8, [.ref a_p0_state_pieces, .ref a_p0_state_friends, .ref a_p0_state_spoons, .ref a_p0_state_eaten, .ref a_p0_state_seen, .int i_p0_state_seenDays, .int i_p0_state_bone, .int i_p0_state_king, .int i_p0_state_days])), (a_p0_state_pieces, .inl (G 1, 7, .inl v_p0_state_pieces)), (a_p0_state_friends, .inl (G 1, 7, .inl v_p0_state_friends)), (a_p0_state_spoons, .inl (G 1, 7, .inl v_p0_state_spoons)), (a_p0_state_eaten, .inl (G 1, 7, .inl v_p0_state_eaten)), (a_p0_state_seen, .inl (G 1, 6, .inl v_p0_state_seen)), (a_p0_images, .inl (G 4, 2, .inr (.inr (.inr (.inr (va_up (va_up (fun _ => none) 0 (some a_p0_images_0)) 1 (some a_p0_images_1))))))), (a_p0_images_0, .inr (8, [.ref a_p0_images_0_pieces, .ref a_p0_images_0_friends, .ref a_p0_images_0_spoons, .ref a_p0_images_0_eaten, .ref a_p0_images_0_seen, .int i_p0_images_0_seenDays, .int i_p0_images_0_bone, .int i_p0_images_0_king, .int i_p0_images_0_days])), (a_p0_images_0_pieces, .inl (G 1, 7, .inl v_p0_images_0_pieces)), (a_p0_images_0_friends, .inl (G 1, 7, .inl v_p0_images_0_friends)), (a_p0_images_0_spoons, .inl (G 1, 7, .inl v_p0_images_0_spoons)), (a_p0_images_0_eaten, .inl (G 1, 7, .inl v_p0_images_0_eaten)), (a_p0_images_0_seen, .inl (G 1, 6, .inl v_p0_images_0_seen)), (a_p0_images_1, .inr (8, [.ref a_p0_images_1_pieces, .ref a_p0_images_1_friends, .ref a_p0_images_1_spoons, .ref a_p0_images_1_eaten, .ref a_p0_images_1_seen, .int z15, .int z16, .int z17, .int z18])), (a_p0_images_1_pieces, .inl (G 1, 7, .inl w19)), (a_p0_images_1_friends, .inl (G 1, 7, .inl w20)), (a_p0_images_1_spoons, .inl (G 1, 7, .inl w21)), (a_p0_images_1_eaten, .inl (G 1, 7, .inl w22)), (a_p0_images_1_seen, .inl (G 1, 6, .inl w23)), (a_p0_imageHeld, .inl (G 3, 2, .inl w24))]) hx hb hK hP hD hS 20 3 rfl rfl (ixB_in hc) dX11_keep_43 (fun _ => rfl) (fun w24 ez H locs hP hD hS => ?_)
        replace hf := bnd_s hf ez
        clear ez hc
        refine lv_iload_n hx hb dX11_keep_44 rfl (lv_at hl 0 rfl) ?_
        obtain ⟨rfl, rfl, rfl, rfl, rfl, rfl, rfl, rfl, rfl, rfl, rfl, rfl, rfl, rfl, rfl, rfl, rfl, rfl, rfl, rfl⟩ := ou20 hf
        rw [hQ]
        exact W.iret hx hb hr (fun t ht hW => ⟨⟨_, (), rfl, rfl, by rw [ht]; exact hP, va_K.moved hW.alike hK, hD⟩, hS.F ht⟩) hS.2.2 dX11_keep_45
      replace hf := ite_f cc hf
      clear cc
      cases hf
    refine lv_if_eq (tgt := 22) hx hb dX11_keep_15 (by decide) (fun cc => ?_) (fun cc => ?_)
    ·
      replace hf := ite_t cc hf
      clear cc
      refine lv_iconst (v := (0 : Int32)) hx hb dX11_keep_22 (by decide) ?_
      exact hJ3 _ _ _ _ (lv_sub hl [0, 1] rfl) hP hD hS hf
    ·
      replace hf := ite_f cc hf
      clear cc
      refine lv_iconst (v := (1 : Int32)) hx hb dX11_keep_18 (by decide) ?_
      refine lv_goto (tgt := 23) hx hb dX11_keep_19 (by decide) ?_
      exact hJ3 _ _ _ _ (lv_sub hl [0, 1] rfl) hP hD hS hf
  ·
    replace hf := ite_t cc hf
    clear cc
    refine lv_iconst (v := (-1 : Int32)) hx hb dX11_keep_7 (by decide) ?_
    obtain ⟨rfl, rfl, rfl, rfl, rfl, rfl, rfl, rfl, rfl, rfl, rfl, rfl, rfl, rfl, rfl, rfl, rfl, rfl, rfl, rfl⟩ := ou20 hf
    rw [hQ]
    exact W.iret hx hb hr (fun t ht hW => ⟨⟨_, (), rfl, rfl, by rw [ht]; exact hP, va_K.moved hW.alike hK, hD⟩, hS.F ht⟩) hS.2.2 dX11_keep_8

noncomputable def f_X11_back (i_p0_state_seenDays : Int32) (i_p0_state_bone : Int32) (i_p0_state_king : Int32) (i_p0_state_days : Int32) (v_p0_state_pieces : (Nat → Int32)) (v_p0_state_friends : (Nat → Int32)) (v_p0_state_spoons : (Nat → Int32)) (v_p0_state_eaten : (Nat → Int32)) (v_p0_state_seen : (Nat → Int32)) (i_p0_images_0_seenDays : Int32) (i_p0_images_0_bone : Int32) (i_p0_images_0_king : Int32) (i_p0_images_0_days : Int32) (v_p0_images_0_pieces : (Nat → Int32)) (v_p0_images_0_friends : (Nat → Int32)) (v_p0_images_0_spoons : (Nat → Int32)) (v_p0_images_0_eaten : (Nat → Int32)) (v_p0_images_0_seen : (Nat → Int32)) (i_p0_images_1_seenDays : Int32) (i_p0_images_1_bone : Int32) (i_p0_images_1_king : Int32) (i_p0_images_1_days : Int32) (v_p0_images_1_pieces : (Nat → Int32)) (v_p0_images_1_friends : (Nat → Int32)) (v_p0_images_1_spoons : (Nat → Int32)) (v_p0_images_1_eaten : (Nat → Int32)) (v_p0_images_1_seen : (Nat → Int32)) (v_p0_imageHeld : (Nat → Int32)) (x1 : Int32) : Option (Int32 × Int32 × Int32 × Int32 × Int32 × (Nat → Int32) × (Nat → Int32) × (Nat → Int32) × (Nat → Int32) × (Nat → Int32)) := (bd1 (f_X11_isImage x1) (fun (z1 : Int32) => (if z1 = 0 then (some ((-1 : Int32), i_p0_state_seenDays, i_p0_state_bone, i_p0_state_king, i_p0_state_days, v_p0_state_pieces, v_p0_state_friends, v_p0_state_spoons, v_p0_state_eaten, v_p0_state_seen)) else (ck (ixB x1 2) (if (v_p0_imageHeld (x1).toNatClampNeg) = 0 then (some ((-2 : Int32), i_p0_state_seenDays, i_p0_state_bone, i_p0_state_king, i_p0_state_days, v_p0_state_pieces, v_p0_state_friends, v_p0_state_spoons, v_p0_state_eaten, v_p0_state_seen)) else (ck (ixB x1 2) (if x1 = (0 : Int32) then (bd9 (f_X8_copy v_p0_state_pieces v_p0_state_friends v_p0_state_spoons v_p0_state_eaten v_p0_state_seen i_p0_images_0_seenDays i_p0_images_0_bone i_p0_images_0_king i_p0_images_0_days v_p0_images_0_pieces v_p0_images_0_friends v_p0_images_0_spoons v_p0_images_0_eaten v_p0_images_0_seen) (fun (z2 : Int32) (z3 : Int32) (z4 : Int32) (z5 : Int32) (w6 : (Nat → Int32)) (w7 : (Nat → Int32)) (w8 : (Nat → Int32)) (w9 : (Nat → Int32)) (w10 : (Nat → Int32)) => (some (z4, z2, z3, z4, z5, w6, w7, w8, w9, w10)))) else (if x1 = (1 : Int32) then (bd9 (f_X8_copy v_p0_state_pieces v_p0_state_friends v_p0_state_spoons v_p0_state_eaten v_p0_state_seen i_p0_images_1_seenDays i_p0_images_1_bone i_p0_images_1_king i_p0_images_1_days v_p0_images_1_pieces v_p0_images_1_friends v_p0_images_1_spoons v_p0_images_1_eaten v_p0_images_1_seen) (fun (z11 : Int32) (z12 : Int32) (z13 : Int32) (z14 : Int32) (w15 : (Nat → Int32)) (w16 : (Nat → Int32)) (w17 : (Nat → Int32)) (w18 : (Nat → Int32)) (w19 : (Nat → Int32)) => (some (z13, z11, z12, z13, z14, w15, w16, w17, w18, w19)))) else none))))))))
abbrev rm_X11_back : Room := { frames := 2, cells := 0, slots := 0, locals := 81 }
theorem inX11_back_X11 : ∀ w ∈ wsX110, w ∈ wsX11_back := by decide +kernel
theorem mwX11_back_1 : Cond.fieldLink RX11 89 "LadleKings" "imageHeld" "[Z" ∈ wsX11_back := by decide +kernel
theorem mwX11_back_2 : Cond.fieldLink RX11 19 "LadleKings" "state" "LLadleKings$State;" ∈ wsX11_back := by decide +kernel
theorem mwX11_back_3 : Cond.fieldLink RX11 85 "LadleKings" "images" "[LLadleKings$State;" ∈ wsX11_back := by decide +kernel
theorem inX11_back_X8 : ∀ w ∈ wsX80, w ∈ wsX11_back := by decide +kernel
theorem mwX11_back_5 : Cond.fieldLink RX11 136 "LadleKings$State" "king" "I" ∈ wsX11_back := by decide +kernel
set_option maxHeartbeats 8000000 in
set_option maxRecDepth 100000 in
theorem c_X11_back (l : Launch) (D : va_G) (G : Nat → ClassId) (sz : Nat) (a_p0 : Nat) (a_p0_rules : Nat) (a_p0_state : Nat) (a_p0_tape : Nat) (a_p0_reader : Nat) (a_p0_kitchen : Nat) (a_p0_luck : Nat) (a_p0_plans : Nat) (a_p0_coups : Nat) (a_p0_past : Nat) (a_p0_fairDays : Nat) (a_p0_images : Nat) (a_p0_imageHeld : Nat) (a_p0_sheets : Nat) (a_p0_state_pieces : Nat) (a_p0_state_friends : Nat) (a_p0_state_spoons : Nat) (a_p0_state_eaten : Nat) (a_p0_state_seen : Nat) (a_p0_images_0 : Nat) (a_p0_images_1 : Nat) (a_p0_images_0_pieces : Nat) (a_p0_images_0_friends : Nat) (a_p0_images_0_spoons : Nat) (a_p0_images_0_eaten : Nat) (a_p0_images_0_seen : Nat) (a_p0_images_1_pieces : Nat) (a_p0_images_1_friends : Nat) (a_p0_images_1_spoons : Nat) (a_p0_images_1_eaten : Nat) (a_p0_images_1_seen : Nat) (i_p0_latestFault : Int32) (i_p0_latestTear : Int32) (i_p0_state_seenDays : Int32) (i_p0_state_bone : Int32) (i_p0_state_king : Int32) (i_p0_state_days : Int32) (v_p0_state_pieces : (Nat → Int32)) (v_p0_state_friends : (Nat → Int32)) (v_p0_state_spoons : (Nat → Int32)) (v_p0_state_eaten : (Nat → Int32)) (v_p0_state_seen : (Nat → Int32)) (i_p0_images_0_seenDays : Int32) (i_p0_images_0_bone : Int32) (i_p0_images_0_king : Int32) (i_p0_images_0_days : Int32) (v_p0_images_0_pieces : (Nat → Int32)) (v_p0_images_0_friends : (Nat → Int32)) (v_p0_images_0_spoons : (Nat → Int32)) (v_p0_images_0_eaten : (Nat → Int32)) (v_p0_images_0_seen : (Nat → Int32)) (i_p0_images_1_seenDays : Int32) (i_p0_images_1_bone : Int32) (i_p0_images_1_king : Int32) (i_p0_images_1_days : Int32) (v_p0_images_1_pieces : (Nat → Int32)) (v_p0_images_1_friends : (Nat → Int32)) (v_p0_images_1_spoons : (Nat → Int32)) (v_p0_images_1_eaten : (Nat → Int32)) (v_p0_images_1_seen : (Nat → Int32)) (v_p0_imageHeld : (Nat → Int32)) (x1 : Int32) (r : Int32) (o_i_p0_state_seenDays : Int32) (o_i_p0_state_bone : Int32) (o_i_p0_state_king : Int32) (o_i_p0_state_days : Int32) (o_v_p0_state_pieces : (Nat → Int32)) (o_v_p0_state_friends : (Nat → Int32)) (o_v_p0_state_spoons : (Nat → Int32)) (o_v_p0_state_eaten : (Nat → Int32)) (o_v_p0_state_seen : (Nat → Int32)) (hf : f_X11_back i_p0_state_seenDays i_p0_state_bone i_p0_state_king i_p0_state_days v_p0_state_pieces v_p0_state_friends v_p0_state_spoons v_p0_state_eaten v_p0_state_seen i_p0_images_0_seenDays i_p0_images_0_bone i_p0_images_0_king i_p0_images_0_days v_p0_images_0_pieces v_p0_images_0_friends v_p0_images_0_spoons v_p0_images_0_eaten v_p0_images_0_seen i_p0_images_1_seenDays i_p0_images_1_bone i_p0_images_1_king i_p0_images_1_days v_p0_images_1_pieces v_p0_images_1_friends v_p0_images_1_spoons v_p0_images_1_eaten v_p0_images_1_seen v_p0_imageHeld x1 = some (r, o_i_p0_state_seenDays, o_i_p0_state_bone, o_i_p0_state_king, o_i_p0_state_days, o_v_p0_state_pieces, o_v_p0_state_friends, o_v_p0_state_spoons, o_v_p0_state_eaten, o_v_p0_state_seen)) : Met l yX11_back wsX11_back rm_X11_back (pcG D G [.ref a_p0, .int x1] sz [(a_p0, .inr (11, [.ref a_p0_rules, .ref a_p0_state, .ref a_p0_tape, .ref a_p0_reader, .ref a_p0_kitchen, .ref a_p0_luck, .ref a_p0_plans, .ref a_p0_coups, .ref a_p0_past, .ref a_p0_fairDays, .ref a_p0_images, .ref a_p0_imageHeld, .ref a_p0_sheets, .int i_p0_latestFault, .int i_p0_latestTear])), (a_p0_state, .inr (8, [.ref a_p0_state_pieces, .ref a_p0_state_friends, .ref a_p0_state_spoons, .ref a_p0_state_eaten, .ref a_p0_state_seen, .int i_p0_state_seenDays, .int i_p0_state_bone, .int i_p0_state_king, .int i_p0_state_days])), (a_p0_state_pieces, .inl (G 1, 7, .inl v_p0_state_pieces)), (a_p0_state_friends, .inl (G 1, 7, .inl v_p0_state_friends)), (a_p0_state_spoons, .inl (G 1, 7, .inl v_p0_state_spoons)), (a_p0_state_eaten, .inl (G 1, 7, .inl v_p0_state_eaten)), (a_p0_state_seen, .inl (G 1, 6, .inl v_p0_state_seen)), (a_p0_images, .inl (G 4, 2, .inr (.inr (.inr (.inr (va_up (va_up (fun _ => none) 0 (some a_p0_images_0)) 1 (some a_p0_images_1))))))), (a_p0_images_0, .inr (8, [.ref a_p0_images_0_pieces, .ref a_p0_images_0_friends, .ref a_p0_images_0_spoons, .ref a_p0_images_0_eaten, .ref a_p0_images_0_seen, .int i_p0_images_0_seenDays, .int i_p0_images_0_bone, .int i_p0_images_0_king, .int i_p0_images_0_days])), (a_p0_images_0_pieces, .inl (G 1, 7, .inl v_p0_images_0_pieces)), (a_p0_images_0_friends, .inl (G 1, 7, .inl v_p0_images_0_friends)), (a_p0_images_0_spoons, .inl (G 1, 7, .inl v_p0_images_0_spoons)), (a_p0_images_0_eaten, .inl (G 1, 7, .inl v_p0_images_0_eaten)), (a_p0_images_0_seen, .inl (G 1, 6, .inl v_p0_images_0_seen)), (a_p0_images_1, .inr (8, [.ref a_p0_images_1_pieces, .ref a_p0_images_1_friends, .ref a_p0_images_1_spoons, .ref a_p0_images_1_eaten, .ref a_p0_images_1_seen, .int i_p0_images_1_seenDays, .int i_p0_images_1_bone, .int i_p0_images_1_king, .int i_p0_images_1_days])), (a_p0_images_1_pieces, .inl (G 1, 7, .inl v_p0_images_1_pieces)), (a_p0_images_1_friends, .inl (G 1, 7, .inl v_p0_images_1_friends)), (a_p0_images_1_spoons, .inl (G 1, 7, .inl v_p0_images_1_spoons)), (a_p0_images_1_eaten, .inl (G 1, 7, .inl v_p0_images_1_eaten)), (a_p0_images_1_seen, .inl (G 1, 6, .inl v_p0_images_1_seen)), (a_p0_imageHeld, .inl (G 3, 2, .inl v_p0_imageHeld))]) (qcI D G r [(a_p0, .inr (11, [.ref a_p0_rules, .ref a_p0_state, .ref a_p0_tape, .ref a_p0_reader, .ref a_p0_kitchen, .ref a_p0_luck, .ref a_p0_plans, .ref a_p0_coups, .ref a_p0_past, .ref a_p0_fairDays, .ref a_p0_images, .ref a_p0_imageHeld, .ref a_p0_sheets, .int i_p0_latestFault, .int i_p0_latestTear])), (a_p0_state, .inr (8, [.ref a_p0_state_pieces, .ref a_p0_state_friends, .ref a_p0_state_spoons, .ref a_p0_state_eaten, .ref a_p0_state_seen, .int o_i_p0_state_seenDays, .int o_i_p0_state_bone, .int o_i_p0_state_king, .int o_i_p0_state_days])), (a_p0_state_pieces, .inl (G 1, 7, .inl o_v_p0_state_pieces)), (a_p0_state_friends, .inl (G 1, 7, .inl o_v_p0_state_friends)), (a_p0_state_spoons, .inl (G 1, 7, .inl o_v_p0_state_spoons)), (a_p0_state_eaten, .inl (G 1, 7, .inl o_v_p0_state_eaten)), (a_p0_state_seen, .inl (G 1, 6, .inl o_v_p0_state_seen)), (a_p0_images, .inl (G 4, 2, .inr (.inr (.inr (.inr (va_up (va_up (fun _ => none) 0 (some a_p0_images_0)) 1 (some a_p0_images_1))))))), (a_p0_images_0, .inr (8, [.ref a_p0_images_0_pieces, .ref a_p0_images_0_friends, .ref a_p0_images_0_spoons, .ref a_p0_images_0_eaten, .ref a_p0_images_0_seen, .int i_p0_images_0_seenDays, .int i_p0_images_0_bone, .int i_p0_images_0_king, .int i_p0_images_0_days])), (a_p0_images_0_pieces, .inl (G 1, 7, .inl v_p0_images_0_pieces)), (a_p0_images_0_friends, .inl (G 1, 7, .inl v_p0_images_0_friends)), (a_p0_images_0_spoons, .inl (G 1, 7, .inl v_p0_images_0_spoons)), (a_p0_images_0_eaten, .inl (G 1, 7, .inl v_p0_images_0_eaten)), (a_p0_images_0_seen, .inl (G 1, 6, .inl v_p0_images_0_seen)), (a_p0_images_1, .inr (8, [.ref a_p0_images_1_pieces, .ref a_p0_images_1_friends, .ref a_p0_images_1_spoons, .ref a_p0_images_1_eaten, .ref a_p0_images_1_seen, .int i_p0_images_1_seenDays, .int i_p0_images_1_bone, .int i_p0_images_1_king, .int i_p0_images_1_days])), (a_p0_images_1_pieces, .inl (G 1, 7, .inl v_p0_images_1_pieces)), (a_p0_images_1_friends, .inl (G 1, 7, .inl v_p0_images_1_friends)), (a_p0_images_1_spoons, .inl (G 1, 7, .inl v_p0_images_1_spoons)), (a_p0_images_1_eaten, .inl (G 1, 7, .inl v_p0_images_1_eaten)), (a_p0_images_1_seen, .inl (G 1, 6, .inl v_p0_images_1_seen)), (a_p0_imageHeld, .inl (G 3, 2, .inl v_p0_imageHeld))] (va_A [(a_p0, .inr (11, [.ref a_p0_rules, .ref a_p0_state, .ref a_p0_tape, .ref a_p0_reader, .ref a_p0_kitchen, .ref a_p0_luck, .ref a_p0_plans, .ref a_p0_coups, .ref a_p0_past, .ref a_p0_fairDays, .ref a_p0_images, .ref a_p0_imageHeld, .ref a_p0_sheets, .int i_p0_latestFault, .int i_p0_latestTear])), (a_p0_state, .inr (8, [.ref a_p0_state_pieces, .ref a_p0_state_friends, .ref a_p0_state_spoons, .ref a_p0_state_eaten, .ref a_p0_state_seen, .int i_p0_state_seenDays, .int i_p0_state_bone, .int i_p0_state_king, .int i_p0_state_days])), (a_p0_state_pieces, .inl (G 1, 7, .inl v_p0_state_pieces)), (a_p0_state_friends, .inl (G 1, 7, .inl v_p0_state_friends)), (a_p0_state_spoons, .inl (G 1, 7, .inl v_p0_state_spoons)), (a_p0_state_eaten, .inl (G 1, 7, .inl v_p0_state_eaten)), (a_p0_state_seen, .inl (G 1, 6, .inl v_p0_state_seen)), (a_p0_images, .inl (G 4, 2, .inr (.inr (.inr (.inr (va_up (va_up (fun _ => none) 0 (some a_p0_images_0)) 1 (some a_p0_images_1))))))), (a_p0_images_0, .inr (8, [.ref a_p0_images_0_pieces, .ref a_p0_images_0_friends, .ref a_p0_images_0_spoons, .ref a_p0_images_0_eaten, .ref a_p0_images_0_seen, .int i_p0_images_0_seenDays, .int i_p0_images_0_bone, .int i_p0_images_0_king, .int i_p0_images_0_days])), (a_p0_images_0_pieces, .inl (G 1, 7, .inl v_p0_images_0_pieces)), (a_p0_images_0_friends, .inl (G 1, 7, .inl v_p0_images_0_friends)), (a_p0_images_0_spoons, .inl (G 1, 7, .inl v_p0_images_0_spoons)), (a_p0_images_0_eaten, .inl (G 1, 7, .inl v_p0_images_0_eaten)), (a_p0_images_0_seen, .inl (G 1, 6, .inl v_p0_images_0_seen)), (a_p0_images_1, .inr (8, [.ref a_p0_images_1_pieces, .ref a_p0_images_1_friends, .ref a_p0_images_1_spoons, .ref a_p0_images_1_eaten, .ref a_p0_images_1_seen, .int i_p0_images_1_seenDays, .int i_p0_images_1_bone, .int i_p0_images_1_king, .int i_p0_images_1_days])), (a_p0_images_1_pieces, .inl (G 1, 7, .inl v_p0_images_1_pieces)), (a_p0_images_1_friends, .inl (G 1, 7, .inl v_p0_images_1_friends)), (a_p0_images_1_spoons, .inl (G 1, 7, .inl v_p0_images_1_spoons)), (a_p0_images_1_eaten, .inl (G 1, 7, .inl v_p0_images_1_eaten)), (a_p0_images_1_seen, .inl (G 1, 6, .inl v_p0_images_1_seen)), (a_p0_imageHeld, .inl (G 3, 2, .inl v_p0_imageHeld))] sz)) 0 0 (va_A [(a_p0, .inr (11, [.ref a_p0_rules, .ref a_p0_state, .ref a_p0_tape, .ref a_p0_reader, .ref a_p0_kitchen, .ref a_p0_luck, .ref a_p0_plans, .ref a_p0_coups, .ref a_p0_past, .ref a_p0_fairDays, .ref a_p0_images, .ref a_p0_imageHeld, .ref a_p0_sheets, .int i_p0_latestFault, .int i_p0_latestTear])), (a_p0_state, .inr (8, [.ref a_p0_state_pieces, .ref a_p0_state_friends, .ref a_p0_state_spoons, .ref a_p0_state_eaten, .ref a_p0_state_seen, .int i_p0_state_seenDays, .int i_p0_state_bone, .int i_p0_state_king, .int i_p0_state_days])), (a_p0_state_pieces, .inl (G 1, 7, .inl v_p0_state_pieces)), (a_p0_state_friends, .inl (G 1, 7, .inl v_p0_state_friends)), (a_p0_state_spoons, .inl (G 1, 7, .inl v_p0_state_spoons)), (a_p0_state_eaten, .inl (G 1, 7, .inl v_p0_state_eaten)), (a_p0_state_seen, .inl (G 1, 6, .inl v_p0_state_seen)), (a_p0_images, .inl (G 4, 2, .inr (.inr (.inr (.inr (va_up (va_up (fun _ => none) 0 (some a_p0_images_0)) 1 (some a_p0_images_1))))))), (a_p0_images_0, .inr (8, [.ref a_p0_images_0_pieces, .ref a_p0_images_0_friends, .ref a_p0_images_0_spoons, .ref a_p0_images_0_eaten, .ref a_p0_images_0_seen, .int i_p0_images_0_seenDays, .int i_p0_images_0_bone, .int i_p0_images_0_king, .int i_p0_images_0_days])), (a_p0_images_0_pieces, .inl (G 1, 7, .inl v_p0_images_0_pieces)), (a_p0_images_0_friends, .inl (G 1, 7, .inl v_p0_images_0_friends)), (a_p0_images_0_spoons, .inl (G 1, 7, .inl v_p0_images_0_spoons)), (a_p0_images_0_eaten, .inl (G 1, 7, .inl v_p0_images_0_eaten)), (a_p0_images_0_seen, .inl (G 1, 6, .inl v_p0_images_0_seen)), (a_p0_images_1, .inr (8, [.ref a_p0_images_1_pieces, .ref a_p0_images_1_friends, .ref a_p0_images_1_spoons, .ref a_p0_images_1_eaten, .ref a_p0_images_1_seen, .int i_p0_images_1_seenDays, .int i_p0_images_1_bone, .int i_p0_images_1_king, .int i_p0_images_1_days])), (a_p0_images_1_pieces, .inl (G 1, 7, .inl v_p0_images_1_pieces)), (a_p0_images_1_friends, .inl (G 1, 7, .inl v_p0_images_1_friends)), (a_p0_images_1_spoons, .inl (G 1, 7, .inl v_p0_images_1_spoons)), (a_p0_images_1_eaten, .inl (G 1, 7, .inl v_p0_images_1_eaten)), (a_p0_images_1_seen, .inl (G 1, 6, .inl v_p0_images_1_seen)), (a_p0_imageHeld, .inl (G 3, 2, .inl v_p0_imageHeld))] sz) := by
  refine Met.ofW (cc := cX11_back) (maxL := 2) (ret := (some .int)) (by decide) rfl ?_
  intro p e s m args below meth c s₁ B hml hv
  obtain ⟨rfl, hsz, hP, hK, hD0⟩ := hv
  have hx := B.exec
  have hb := B.bytes
  have hr := B.returns
  have hts := atoms_spec (ws := wsX11_back) B.pre
  have hown : s.vm.findClass RX11 = some m.cls := findClass_of_methodNamed B.named
  have hlocks := B.notSynchronized
  subst hsz
  have hD := hD0.self (sz := s.heap.size)
  generalize hAe : va_A [(a_p0, .inr (11, [.ref a_p0_rules, .ref a_p0_state, .ref a_p0_tape, .ref a_p0_reader, .ref a_p0_kitchen, .ref a_p0_luck, .ref a_p0_plans, .ref a_p0_coups, .ref a_p0_past, .ref a_p0_fairDays, .ref a_p0_images, .ref a_p0_imageHeld, .ref a_p0_sheets, .int i_p0_latestFault, .int i_p0_latestTear])), (a_p0_state, .inr (8, [.ref a_p0_state_pieces, .ref a_p0_state_friends, .ref a_p0_state_spoons, .ref a_p0_state_eaten, .ref a_p0_state_seen, .int i_p0_state_seenDays, .int i_p0_state_bone, .int i_p0_state_king, .int i_p0_state_days])), (a_p0_state_pieces, .inl (G 1, 7, .inl v_p0_state_pieces)), (a_p0_state_friends, .inl (G 1, 7, .inl v_p0_state_friends)), (a_p0_state_spoons, .inl (G 1, 7, .inl v_p0_state_spoons)), (a_p0_state_eaten, .inl (G 1, 7, .inl v_p0_state_eaten)), (a_p0_state_seen, .inl (G 1, 6, .inl v_p0_state_seen)), (a_p0_images, .inl (G 4, 2, .inr (.inr (.inr (.inr (va_up (va_up (fun _ => none) 0 (some a_p0_images_0)) 1 (some a_p0_images_1))))))), (a_p0_images_0, .inr (8, [.ref a_p0_images_0_pieces, .ref a_p0_images_0_friends, .ref a_p0_images_0_spoons, .ref a_p0_images_0_eaten, .ref a_p0_images_0_seen, .int i_p0_images_0_seenDays, .int i_p0_images_0_bone, .int i_p0_images_0_king, .int i_p0_images_0_days])), (a_p0_images_0_pieces, .inl (G 1, 7, .inl v_p0_images_0_pieces)), (a_p0_images_0_friends, .inl (G 1, 7, .inl v_p0_images_0_friends)), (a_p0_images_0_spoons, .inl (G 1, 7, .inl v_p0_images_0_spoons)), (a_p0_images_0_eaten, .inl (G 1, 7, .inl v_p0_images_0_eaten)), (a_p0_images_0_seen, .inl (G 1, 6, .inl v_p0_images_0_seen)), (a_p0_images_1, .inr (8, [.ref a_p0_images_1_pieces, .ref a_p0_images_1_friends, .ref a_p0_images_1_spoons, .ref a_p0_images_1_eaten, .ref a_p0_images_1_seen, .int i_p0_images_1_seenDays, .int i_p0_images_1_bone, .int i_p0_images_1_king, .int i_p0_images_1_days])), (a_p0_images_1_pieces, .inl (G 1, 7, .inl v_p0_images_1_pieces)), (a_p0_images_1_friends, .inl (G 1, 7, .inl v_p0_images_1_friends)), (a_p0_images_1_spoons, .inl (G 1, 7, .inl v_p0_images_1_spoons)), (a_p0_images_1_eaten, .inl (G 1, 7, .inl v_p0_images_1_eaten)), (a_p0_images_1_seen, .inl (G 1, 6, .inl v_p0_images_1_seen)), (a_p0_imageHeld, .inl (G 3, 2, .inl v_p0_imageHeld))] s.heap.size = A at hD ⊢
  have hA : ∀ q : Nat, s.heap.size ≤ q → A q := fun q h => by rw [← hAe]; exact Or.inr h
  clear hAe hD0
  have hS : va_S A s.heap s.heap [] := va_S.rf
  have hl := lv_entry ([.ref a_p0, .int x1]) (n := 2) (Nat.le_of_ble_eq_true rfl)
  rw [lg_entry_eq]
  generalize (lg_sl ([.ref a_p0, .int x1]) ++ List.replicate (2 - (lg_sl ([.ref a_p0, .int x1])).length) Slot.unset).toArray = ls at hl ⊢
  have hl : lv_has ls 2 [(0, .ref a_p0), (1, .int x1)] := hl
  refine W_nameQ (fun Q hQ => ?_)
  obtain ⟨H, hH⟩ : ∃ H, H = s.heap := ⟨_, rfl⟩
  replace hS : va_S A s.heap H [] := by rw [hH]; exact hS
  replace hP : va_P D vwCl [(a_p0, .inr (11, [.ref a_p0_rules, .ref a_p0_state, .ref a_p0_tape, .ref a_p0_reader, .ref a_p0_kitchen, .ref a_p0_luck, .ref a_p0_plans, .ref a_p0_coups, .ref a_p0_past, .ref a_p0_fairDays, .ref a_p0_images, .ref a_p0_imageHeld, .ref a_p0_sheets, .int i_p0_latestFault, .int i_p0_latestTear])), (a_p0_state, .inr (8, [.ref a_p0_state_pieces, .ref a_p0_state_friends, .ref a_p0_state_spoons, .ref a_p0_state_eaten, .ref a_p0_state_seen, .int i_p0_state_seenDays, .int i_p0_state_bone, .int i_p0_state_king, .int i_p0_state_days])), (a_p0_state_pieces, .inl (G 1, 7, .inl v_p0_state_pieces)), (a_p0_state_friends, .inl (G 1, 7, .inl v_p0_state_friends)), (a_p0_state_spoons, .inl (G 1, 7, .inl v_p0_state_spoons)), (a_p0_state_eaten, .inl (G 1, 7, .inl v_p0_state_eaten)), (a_p0_state_seen, .inl (G 1, 6, .inl v_p0_state_seen)), (a_p0_images, .inl (G 4, 2, .inr (.inr (.inr (.inr (va_up (va_up (fun _ => none) 0 (some a_p0_images_0)) 1 (some a_p0_images_1))))))), (a_p0_images_0, .inr (8, [.ref a_p0_images_0_pieces, .ref a_p0_images_0_friends, .ref a_p0_images_0_spoons, .ref a_p0_images_0_eaten, .ref a_p0_images_0_seen, .int i_p0_images_0_seenDays, .int i_p0_images_0_bone, .int i_p0_images_0_king, .int i_p0_images_0_days])), (a_p0_images_0_pieces, .inl (G 1, 7, .inl v_p0_images_0_pieces)), (a_p0_images_0_friends, .inl (G 1, 7, .inl v_p0_images_0_friends)), (a_p0_images_0_spoons, .inl (G 1, 7, .inl v_p0_images_0_spoons)), (a_p0_images_0_eaten, .inl (G 1, 7, .inl v_p0_images_0_eaten)), (a_p0_images_0_seen, .inl (G 1, 6, .inl v_p0_images_0_seen)), (a_p0_images_1, .inr (8, [.ref a_p0_images_1_pieces, .ref a_p0_images_1_friends, .ref a_p0_images_1_spoons, .ref a_p0_images_1_eaten, .ref a_p0_images_1_seen, .int i_p0_images_1_seenDays, .int i_p0_images_1_bone, .int i_p0_images_1_king, .int i_p0_images_1_days])), (a_p0_images_1_pieces, .inl (G 1, 7, .inl v_p0_images_1_pieces)), (a_p0_images_1_friends, .inl (G 1, 7, .inl v_p0_images_1_friends)), (a_p0_images_1_spoons, .inl (G 1, 7, .inl v_p0_images_1_spoons)), (a_p0_images_1_eaten, .inl (G 1, 7, .inl v_p0_images_1_eaten)), (a_p0_images_1_seen, .inl (G 1, 6, .inl v_p0_images_1_seen)), (a_p0_imageHeld, .inl (G 3, 2, .inl v_p0_imageHeld))] H := by rw [hH]; exact hP
  rw [← hH]
  clear hH
  unfold f_X11_back at hf
  refine lv_iload_n hx hb dX11_back_0 rfl (lv_at hl 1 rfl) ?_
  have hq := bd1_s hf
  clear hf
  obtain ⟨z1, hcall, hf⟩ := hq
  refine gcI (ws' := [(a_p0, .inr (11, [.ref a_p0_rules, .ref a_p0_state, .ref a_p0_tape, .ref a_p0_reader, .ref a_p0_kitchen, .ref a_p0_luck, .ref a_p0_plans, .ref a_p0_coups, .ref a_p0_past, .ref a_p0_fairDays, .ref a_p0_images, .ref a_p0_imageHeld, .ref a_p0_sheets, .int i_p0_latestFault, .int i_p0_latestTear])), (a_p0_state, .inr (8, [.ref a_p0_state_pieces, .ref a_p0_state_friends, .ref a_p0_state_spoons, .ref a_p0_state_eaten, .ref a_p0_state_seen, .int i_p0_state_seenDays, .int i_p0_state_bone, .int i_p0_state_king, .int i_p0_state_days])), (a_p0_state_pieces, .inl (G 1, 7, .inl v_p0_state_pieces)), (a_p0_state_friends, .inl (G 1, 7, .inl v_p0_state_friends)), (a_p0_state_spoons, .inl (G 1, 7, .inl v_p0_state_spoons)), (a_p0_state_eaten, .inl (G 1, 7, .inl v_p0_state_eaten)), (a_p0_state_seen, .inl (G 1, 6, .inl v_p0_state_seen)), (a_p0_images, .inl (G 4, 2, .inr (.inr (.inr (.inr (va_up (va_up (fun _ => none) 0 (some a_p0_images_0)) 1 (some a_p0_images_1))))))), (a_p0_images_0, .inr (8, [.ref a_p0_images_0_pieces, .ref a_p0_images_0_friends, .ref a_p0_images_0_spoons, .ref a_p0_images_0_eaten, .ref a_p0_images_0_seen, .int i_p0_images_0_seenDays, .int i_p0_images_0_bone, .int i_p0_images_0_king, .int i_p0_images_0_days])), (a_p0_images_0_pieces, .inl (G 1, 7, .inl v_p0_images_0_pieces)), (a_p0_images_0_friends, .inl (G 1, 7, .inl v_p0_images_0_friends)), (a_p0_images_0_spoons, .inl (G 1, 7, .inl v_p0_images_0_spoons)), (a_p0_images_0_eaten, .inl (G 1, 7, .inl v_p0_images_0_eaten)), (a_p0_images_0_seen, .inl (G 1, 6, .inl v_p0_images_0_seen)), (a_p0_images_1, .inr (8, [.ref a_p0_images_1_pieces, .ref a_p0_images_1_friends, .ref a_p0_images_1_spoons, .ref a_p0_images_1_eaten, .ref a_p0_images_1_seen, .int i_p0_images_1_seenDays, .int i_p0_images_1_bone, .int i_p0_images_1_king, .int i_p0_images_1_days])), (a_p0_images_1_pieces, .inl (G 1, 7, .inl v_p0_images_1_pieces)), (a_p0_images_1_friends, .inl (G 1, 7, .inl v_p0_images_1_friends)), (a_p0_images_1_spoons, .inl (G 1, 7, .inl v_p0_images_1_spoons)), (a_p0_images_1_eaten, .inl (G 1, 7, .inl v_p0_images_1_eaten)), (a_p0_images_1_seen, .inl (G 1, 6, .inl v_p0_images_1_seen)), (a_p0_imageHeld, .inl (G 3, 2, .inl v_p0_imageHeld))]) (va_runS (As := [.int x1]) (rest := []) ⟨hx, hb, hml, hown, hts⟩ (c_X11_isImage (l := l) (D := D) (G := G) (sz := H.size) (x0 := x1) (r := z1) (hf := hcall)) (va_cwS 1 hts gX11_back_X11_isImage rfl rfl rfl (by decide +kernel) ⟨Nat.le_of_ble_eq_true rfl, Nat.le_of_ble_eq_true rfl⟩) (preG_S (hP.sub [] rfl) (hD.sub [] rfl rfl) hK) rfl rfl hl.1 rfl (lv_room (Nat.le_of_ble_eq_true rfl)) dX11_back_1 ⟨Nat.le_of_ble_eq_true rfl, Nat.le_of_ble_eq_true rfl⟩) hP hD hS hA [] [0, 1, 2, 3, 4, 5, 6, 7, 8, 9, 10, 11, 12, 13, 14, 15, 16, 17, 18, 19, 20] [0, 1, 2, 3, 4, 5, 6, 7, 8, 9, 10, 11, 12, 13, 14, 15, 16, 17, 18, 19, 20] rfl rfl rfl (by decide) rfl rfl rfl (fun H locs hP hD hS => ?_)
  clear hcall
  refine lv_if_ne (tgt := 9) hx hb dX11_back_4 (by decide) (fun cc => ?_) (fun cc => ?_)
  ·
    replace hf := ite_f cc hf
    clear cc
    refine lv_aload_n hx hb dX11_back_9 rfl (lv_at hl 0 rfl) ?_
    refine va_get (D := D) (ci := 11) (v := .ref a_p0_imageHeld) (C := RX11) (T := TX11) (N := 15) hx hb hts inX11_back_X11 hown hK hP 0 rfl rfl 11 (by decide) (hts _ mwX11_back_1) (fun _ h9 => h9) rfl dX11_back_10 ?_
    refine lv_iload_n hx hb dX11_back_13 rfl (lv_at hl 1 rfl) ?_
    have hc := ck_c hf
    replace hf := ck_r hf
    refine va_zald hx hb hK hP 20 3 rfl rfl (ixB_in hc) dX11_back_14 ?_
    clear hc
    refine lv_if_ne (tgt := 21) hx hb dX11_back_15 (by decide) (fun cc => ?_) (fun cc => ?_)
    ·
      replace hf := ite_f cc hf
      clear cc
      refine lv_aload_n hx hb dX11_back_21 rfl (lv_at hl 0 rfl) ?_
      refine va_get (D := D) (ci := 11) (v := .ref a_p0_state) (C := RX11) (T := TX11) (N := 15) hx hb hts inX11_back_X11 hown hK hP 0 rfl rfl 1 (by decide) (hts _ mwX11_back_2) (fun _ h9 => h9) rfl dX11_back_22 ?_
      refine lv_aload_n hx hb dX11_back_25 rfl (lv_at hl 0 rfl) ?_
      refine va_get (D := D) (ci := 11) (v := .ref a_p0_images) (C := RX11) (T := TX11) (N := 15) hx hb hts inX11_back_X11 hown hK hP 0 rfl rfl 10 (by decide) (hts _ mwX11_back_3) (fun _ h9 => h9) rfl dX11_back_26 ?_
      refine lv_iload_n hx hb dX11_back_29 rfl (lv_at hl 1 rfl) ?_
      have hc := ck_c hf
      replace hf := ck_r hf
      refine va_aldq hx hb hK hP 7 4 rfl rfl (ixB_in hc) dX11_back_30 ?_
      clear hc
      rcases Decidable.em (x1 = (0 : Int32)) with cc | cc
      ·
        replace hf := ite_t cc hf
        refine W.eq (g2 := F0 m 31 ls [.ref a_p0_images_0, .ref a_p0_state]) (by rw [cc]; rfl) ?_
        clear cc
        have hq := bd9_s hf
        clear hf
        obtain ⟨z2, z3, z4, z5, w6, w7, w8, w9, w10, hcall, hf⟩ := hq
        refine gcV (ws' := [(a_p0, .inr (11, [.ref a_p0_rules, .ref a_p0_state, .ref a_p0_tape, .ref a_p0_reader, .ref a_p0_kitchen, .ref a_p0_luck, .ref a_p0_plans, .ref a_p0_coups, .ref a_p0_past, .ref a_p0_fairDays, .ref a_p0_images, .ref a_p0_imageHeld, .ref a_p0_sheets, .int i_p0_latestFault, .int i_p0_latestTear])), (a_p0_state, .inr (8, [.ref a_p0_state_pieces, .ref a_p0_state_friends, .ref a_p0_state_spoons, .ref a_p0_state_eaten, .ref a_p0_state_seen, .int z2, .int z3, .int z4, .int z5])), (a_p0_state_pieces, .inl (G 1, 7, .inl w6)), (a_p0_state_friends, .inl (G 1, 7, .inl w7)), (a_p0_state_spoons, .inl (G 1, 7, .inl w8)), (a_p0_state_eaten, .inl (G 1, 7, .inl w9)), (a_p0_state_seen, .inl (G 1, 6, .inl w10)), (a_p0_images, .inl (G 4, 2, .inr (.inr (.inr (.inr (va_up (va_up (fun _ => none) 0 (some a_p0_images_0)) 1 (some a_p0_images_1))))))), (a_p0_images_0, .inr (8, [.ref a_p0_images_0_pieces, .ref a_p0_images_0_friends, .ref a_p0_images_0_spoons, .ref a_p0_images_0_eaten, .ref a_p0_images_0_seen, .int i_p0_images_0_seenDays, .int i_p0_images_0_bone, .int i_p0_images_0_king, .int i_p0_images_0_days])), (a_p0_images_0_pieces, .inl (G 1, 7, .inl v_p0_images_0_pieces)), (a_p0_images_0_friends, .inl (G 1, 7, .inl v_p0_images_0_friends)), (a_p0_images_0_spoons, .inl (G 1, 7, .inl v_p0_images_0_spoons)), (a_p0_images_0_eaten, .inl (G 1, 7, .inl v_p0_images_0_eaten)), (a_p0_images_0_seen, .inl (G 1, 6, .inl v_p0_images_0_seen)), (a_p0_images_1, .inr (8, [.ref a_p0_images_1_pieces, .ref a_p0_images_1_friends, .ref a_p0_images_1_spoons, .ref a_p0_images_1_eaten, .ref a_p0_images_1_seen, .int i_p0_images_1_seenDays, .int i_p0_images_1_bone, .int i_p0_images_1_king, .int i_p0_images_1_days])), (a_p0_images_1_pieces, .inl (G 1, 7, .inl v_p0_images_1_pieces)), (a_p0_images_1_friends, .inl (G 1, 7, .inl v_p0_images_1_friends)), (a_p0_images_1_spoons, .inl (G 1, 7, .inl v_p0_images_1_spoons)), (a_p0_images_1_eaten, .inl (G 1, 7, .inl v_p0_images_1_eaten)), (a_p0_images_1_seen, .inl (G 1, 6, .inl v_p0_images_1_seen)), (a_p0_imageHeld, .inl (G 3, 2, .inl v_p0_imageHeld))]) (va_runV (As := [.ref a_p0_images_0]) (rest := []) ⟨hx, hb, hml, hown, hts⟩ (c_X8_copy (l := l) (D := D) (G := G) (sz := H.size) (a_p0 := a_p0_state) (a_p0_pieces := a_p0_state_pieces) (a_p0_friends := a_p0_state_friends) (a_p0_spoons := a_p0_state_spoons) (a_p0_eaten := a_p0_state_eaten) (a_p0_seen := a_p0_state_seen) (a_p1 := a_p0_images_0) (a_p1_pieces := a_p0_images_0_pieces) (a_p1_friends := a_p0_images_0_friends) (a_p1_spoons := a_p0_images_0_spoons) (a_p1_eaten := a_p0_images_0_eaten) (a_p1_seen := a_p0_images_0_seen) (i_p0_seenDays := i_p0_state_seenDays) (i_p0_bone := i_p0_state_bone) (i_p0_king := i_p0_state_king) (i_p0_days := i_p0_state_days) (v_p0_pieces := v_p0_state_pieces) (v_p0_friends := v_p0_state_friends) (v_p0_spoons := v_p0_state_spoons) (v_p0_eaten := v_p0_state_eaten) (v_p0_seen := v_p0_state_seen) (i_p1_seenDays := i_p0_images_0_seenDays) (i_p1_bone := i_p0_images_0_bone) (i_p1_king := i_p0_images_0_king) (i_p1_days := i_p0_images_0_days) (v_p1_pieces := v_p0_images_0_pieces) (v_p1_friends := v_p0_images_0_friends) (v_p1_spoons := v_p0_images_0_spoons) (v_p1_eaten := v_p0_images_0_eaten) (v_p1_seen := v_p0_images_0_seen) (o_i_p0_seenDays := z2) (o_i_p0_bone := z3) (o_i_p0_king := z4) (o_i_p0_days := z5) (o_v_p0_pieces := w6) (o_v_p0_friends := w7) (o_v_p0_spoons := w8) (o_v_p0_eaten := w9) (o_v_p0_seen := w10) (hf := hcall)) (cwV 1 hts gX11_back_X8_copy rfl rfl rfl (by decide +kernel) ⟨Nat.le_of_ble_eq_true rfl, Nat.le_of_ble_eq_true rfl⟩) (preG_V (ci := 8) (hP.sub [1, 2, 3, 4, 5, 6, 8, 9, 10, 11, 12, 13] rfl) (hD.sub [1, 2, 3, 4, 5, 6, 8, 9, 10, 11, 12, 13] rfl rfl) hK rfl rfl) rfl rfl hl.1 rfl (lv_room (Nat.le_of_ble_eq_true rfl)) dX11_back_31 ⟨Nat.le_of_ble_eq_true rfl, Nat.le_of_ble_eq_true rfl⟩) hP hD hS hA [1, 2, 3, 4, 5, 6, 8, 9, 10, 11, 12, 13] [0, 7, 14, 15, 16, 17, 18, 19, 20] [0, 9, 10, 11, 12, 13, 14, 1, 15, 16, 17, 18, 19, 20, 2, 3, 4, 5, 6, 7, 8] rfl rfl rfl (by decide) rfl rfl rfl (fun H locs hP hD hS => ?_)
        clear hcall
        refine lv_aload_n hx hb dX11_back_34 rfl (lv_at hl 0 rfl) ?_
        refine va_get (D := D) (ci := 11) (v := .ref a_p0_state) (C := RX11) (T := TX11) (N := 15) hx hb hts inX11_back_X11 hown hK hP 0 rfl rfl 1 (by decide) (hts _ mwX11_back_2) (fun _ h9 => h9) rfl dX11_back_35 ?_
        refine va_get (D := D) (ci := 8) (v := .int z4) (C := RX8) (T := TX8) (N := 9) hx hb hts inX11_back_X8 hown hK hP 1 rfl rfl 7 (by decide) (hts _ mwX11_back_5) (fun _ h9 => h9) rfl dX11_back_38 ?_
        obtain ⟨rfl, rfl, rfl, rfl, rfl, rfl, rfl, rfl, rfl, rfl⟩ := ou10 hf
        rw [hQ]
        exact W.iret hx hb hr (fun t ht hW => ⟨⟨_, (), rfl, rfl, by rw [ht]; exact hP, va_K.moved hW.alike hK, hD⟩, hS.F ht⟩) hS.2.2 dX11_back_41
      replace hf := ite_f cc hf
      clear cc
      rcases Decidable.em (x1 = (1 : Int32)) with cc | cc
      ·
        replace hf := ite_t cc hf
        refine W.eq (g2 := F0 m 31 ls [.ref a_p0_images_1, .ref a_p0_state]) (by rw [cc]; rfl) ?_
        clear cc
        have hq := bd9_s hf
        clear hf
        obtain ⟨z11, z12, z13, z14, w15, w16, w17, w18, w19, hcall, hf⟩ := hq
        refine gcV (ws' := [(a_p0, .inr (11, [.ref a_p0_rules, .ref a_p0_state, .ref a_p0_tape, .ref a_p0_reader, .ref a_p0_kitchen, .ref a_p0_luck, .ref a_p0_plans, .ref a_p0_coups, .ref a_p0_past, .ref a_p0_fairDays, .ref a_p0_images, .ref a_p0_imageHeld, .ref a_p0_sheets, .int i_p0_latestFault, .int i_p0_latestTear])), (a_p0_state, .inr (8, [.ref a_p0_state_pieces, .ref a_p0_state_friends, .ref a_p0_state_spoons, .ref a_p0_state_eaten, .ref a_p0_state_seen, .int z11, .int z12, .int z13, .int z14])), (a_p0_state_pieces, .inl (G 1, 7, .inl w15)), (a_p0_state_friends, .inl (G 1, 7, .inl w16)), (a_p0_state_spoons, .inl (G 1, 7, .inl w17)), (a_p0_state_eaten, .inl (G 1, 7, .inl w18)), (a_p0_state_seen, .inl (G 1, 6, .inl w19)), (a_p0_images, .inl (G 4, 2, .inr (.inr (.inr (.inr (va_up (va_up (fun _ => none) 0 (some a_p0_images_0)) 1 (some a_p0_images_1))))))), (a_p0_images_0, .inr (8, [.ref a_p0_images_0_pieces, .ref a_p0_images_0_friends, .ref a_p0_images_0_spoons, .ref a_p0_images_0_eaten, .ref a_p0_images_0_seen, .int i_p0_images_0_seenDays, .int i_p0_images_0_bone, .int i_p0_images_0_king, .int i_p0_images_0_days])), (a_p0_images_0_pieces, .inl (G 1, 7, .inl v_p0_images_0_pieces)), (a_p0_images_0_friends, .inl (G 1, 7, .inl v_p0_images_0_friends)), (a_p0_images_0_spoons, .inl (G 1, 7, .inl v_p0_images_0_spoons)), (a_p0_images_0_eaten, .inl (G 1, 7, .inl v_p0_images_0_eaten)), (a_p0_images_0_seen, .inl (G 1, 6, .inl v_p0_images_0_seen)), (a_p0_images_1, .inr (8, [.ref a_p0_images_1_pieces, .ref a_p0_images_1_friends, .ref a_p0_images_1_spoons, .ref a_p0_images_1_eaten, .ref a_p0_images_1_seen, .int i_p0_images_1_seenDays, .int i_p0_images_1_bone, .int i_p0_images_1_king, .int i_p0_images_1_days])), (a_p0_images_1_pieces, .inl (G 1, 7, .inl v_p0_images_1_pieces)), (a_p0_images_1_friends, .inl (G 1, 7, .inl v_p0_images_1_friends)), (a_p0_images_1_spoons, .inl (G 1, 7, .inl v_p0_images_1_spoons)), (a_p0_images_1_eaten, .inl (G 1, 7, .inl v_p0_images_1_eaten)), (a_p0_images_1_seen, .inl (G 1, 6, .inl v_p0_images_1_seen)), (a_p0_imageHeld, .inl (G 3, 2, .inl v_p0_imageHeld))]) (va_runV (As := [.ref a_p0_images_1]) (rest := []) ⟨hx, hb, hml, hown, hts⟩ (c_X8_copy (l := l) (D := D) (G := G) (sz := H.size) (a_p0 := a_p0_state) (a_p0_pieces := a_p0_state_pieces) (a_p0_friends := a_p0_state_friends) (a_p0_spoons := a_p0_state_spoons) (a_p0_eaten := a_p0_state_eaten) (a_p0_seen := a_p0_state_seen) (a_p1 := a_p0_images_1) (a_p1_pieces := a_p0_images_1_pieces) (a_p1_friends := a_p0_images_1_friends) (a_p1_spoons := a_p0_images_1_spoons) (a_p1_eaten := a_p0_images_1_eaten) (a_p1_seen := a_p0_images_1_seen) (i_p0_seenDays := i_p0_state_seenDays) (i_p0_bone := i_p0_state_bone) (i_p0_king := i_p0_state_king) (i_p0_days := i_p0_state_days) (v_p0_pieces := v_p0_state_pieces) (v_p0_friends := v_p0_state_friends) (v_p0_spoons := v_p0_state_spoons) (v_p0_eaten := v_p0_state_eaten) (v_p0_seen := v_p0_state_seen) (i_p1_seenDays := i_p0_images_1_seenDays) (i_p1_bone := i_p0_images_1_bone) (i_p1_king := i_p0_images_1_king) (i_p1_days := i_p0_images_1_days) (v_p1_pieces := v_p0_images_1_pieces) (v_p1_friends := v_p0_images_1_friends) (v_p1_spoons := v_p0_images_1_spoons) (v_p1_eaten := v_p0_images_1_eaten) (v_p1_seen := v_p0_images_1_seen) (o_i_p0_seenDays := z11) (o_i_p0_bone := z12) (o_i_p0_king := z13) (o_i_p0_days := z14) (o_v_p0_pieces := w15) (o_v_p0_friends := w16) (o_v_p0_spoons := w17) (o_v_p0_eaten := w18) (o_v_p0_seen := w19) (hf := hcall)) (cwV 1 hts gX11_back_X8_copy rfl rfl rfl (by decide +kernel) ⟨Nat.le_of_ble_eq_true rfl, Nat.le_of_ble_eq_true rfl⟩) (preG_V (ci := 8) (hP.sub [1, 2, 3, 4, 5, 6, 14, 15, 16, 17, 18, 19] rfl) (hD.sub [1, 2, 3, 4, 5, 6, 14, 15, 16, 17, 18, 19] rfl rfl) hK rfl rfl) rfl rfl hl.1 rfl (lv_room (Nat.le_of_ble_eq_true rfl)) dX11_back_31 ⟨Nat.le_of_ble_eq_true rfl, Nat.le_of_ble_eq_true rfl⟩) hP hD hS hA [1, 2, 3, 4, 5, 6, 14, 15, 16, 17, 18, 19] [0, 7, 8, 9, 10, 11, 12, 13, 20] [0, 9, 10, 11, 12, 13, 14, 1, 2, 3, 4, 5, 6, 7, 15, 16, 17, 18, 19, 20, 8] rfl rfl rfl (by decide) rfl rfl rfl (fun H locs hP hD hS => ?_)
        clear hcall
        refine lv_aload_n hx hb dX11_back_34 rfl (lv_at hl 0 rfl) ?_
        refine va_get (D := D) (ci := 11) (v := .ref a_p0_state) (C := RX11) (T := TX11) (N := 15) hx hb hts inX11_back_X11 hown hK hP 0 rfl rfl 1 (by decide) (hts _ mwX11_back_2) (fun _ h9 => h9) rfl dX11_back_35 ?_
        refine va_get (D := D) (ci := 8) (v := .int z13) (C := RX8) (T := TX8) (N := 9) hx hb hts inX11_back_X8 hown hK hP 1 rfl rfl 7 (by decide) (hts _ mwX11_back_5) (fun _ h9 => h9) rfl dX11_back_38 ?_
        obtain ⟨rfl, rfl, rfl, rfl, rfl, rfl, rfl, rfl, rfl, rfl⟩ := ou10 hf
        rw [hQ]
        exact W.iret hx hb hr (fun t ht hW => ⟨⟨_, (), rfl, rfl, by rw [ht]; exact hP, va_K.moved hW.alike hK, hD⟩, hS.F ht⟩) hS.2.2 dX11_back_41
      replace hf := ite_f cc hf
      clear cc
      cases hf
    ·
      replace hf := ite_t cc hf
      clear cc
      refine lv_bipush (v := (-2 : Int32)) hx hb dX11_back_18 (by decide) ?_
      obtain ⟨rfl, rfl, rfl, rfl, rfl, rfl, rfl, rfl, rfl, rfl⟩ := ou10 hf
      rw [hQ]
      exact W.iret hx hb hr (fun t ht hW => ⟨⟨_, (), rfl, rfl, by rw [ht]; exact hP, va_K.moved hW.alike hK, hD⟩, hS.F ht⟩) hS.2.2 dX11_back_20
  ·
    replace hf := ite_t cc hf
    clear cc
    refine lv_iconst (v := (-1 : Int32)) hx hb dX11_back_7 (by decide) ?_
    obtain ⟨rfl, rfl, rfl, rfl, rfl, rfl, rfl, rfl, rfl, rfl⟩ := ou10 hf
    rw [hQ]
    exact W.iret hx hb hr (fun t ht hW => ⟨⟨_, (), rfl, rfl, by rw [ht]; exact hP, va_K.moved hW.alike hK, hD⟩, hS.F ht⟩) hS.2.2 dX11_back_8

noncomputable def f_X11_isSheet (x0 : Int32) : Option (Int32) := (if x0 < 0 then (some (0 : Int32)) else (if (4 : Int32) ≤ x0 then (some (0 : Int32)) else (some (1 : Int32))))
abbrev rm_X11_isSheet : Room := { frames := 0, cells := 0, slots := 0, locals := 0 }
set_option maxHeartbeats 8000000 in
set_option maxRecDepth 100000 in
theorem c_X11_isSheet (l : Launch) (D : va_G) (G : Nat → ClassId) (sz : Nat) (x0 : Int32) (r : Int32) (hf : f_X11_isSheet x0 = some r) : Met l yX11_isSheet wsX11_isSheet rm_X11_isSheet (pcG D G [.int x0] sz []) (qcI D G r [] (va_A [] sz)) 0 0 (va_A [] sz) := by
  refine Met.ofW (cc := cX11_isSheet) (maxL := 1) (ret := (some .boolean)) (by decide) rfl ?_
  intro p e s m args below meth c s₁ B hml hv
  obtain ⟨rfl, hsz, hP, hK, hD0⟩ := hv
  have hx := B.exec
  have hb := B.bytes
  have hr := B.returns
  have hts := atoms_spec (ws := wsX11_isSheet) B.pre
  have hown : s.vm.findClass RX11 = some m.cls := findClass_of_methodNamed B.named
  have hlocks := B.notSynchronized
  subst hsz
  have hD := hD0.self (sz := s.heap.size)
  generalize hAe : va_A [] s.heap.size = A at hD ⊢
  have hA : ∀ q : Nat, s.heap.size ≤ q → A q := fun q h => by rw [← hAe]; exact Or.inr h
  clear hAe hD0
  have hS : va_S A s.heap s.heap [] := va_S.rf
  have hl := lv_entry ([.int x0]) (n := 1) (Nat.le_of_ble_eq_true rfl)
  rw [lg_entry_eq]
  generalize (lg_sl ([.int x0]) ++ List.replicate (1 - (lg_sl ([.int x0])).length) Slot.unset).toArray = ls at hl ⊢
  have hl : lv_has ls 1 [(0, .int x0)] := hl
  refine W_nameQ (fun Q hQ => ?_)
  obtain ⟨H, hH⟩ : ∃ H, H = s.heap := ⟨_, rfl⟩
  replace hS : va_S A s.heap H [] := by rw [hH]; exact hS
  replace hP : va_P D vwCl [] H := by rw [hH]; exact hP
  rw [← hH]
  clear hH
  unfold f_X11_isSheet at hf
  refine lv_iload_n hx hb dX11_isSheet_0 rfl (lv_at hl 0 rfl) ?_
  refine lv_if_lt (tgt := 13) hx hb dX11_isSheet_1 (by decide) (fun cc => ?_) (fun cc => ?_)
  ·
    replace hf := ite_t cc hf
    clear cc
    refine lv_iconst (v := (0 : Int32)) hx hb dX11_isSheet_13 (by decide) ?_
    obtain rfl := ou1 hf
    rw [hQ]
    exact W.zret hx hb hr rfl (fun t ht hW => ⟨⟨_, (), rfl, rfl, by rw [ht]; exact hP, va_K.moved hW.alike hK, hD⟩, hS.F ht⟩) hS.2.2 dX11_isSheet_14
  ·
    replace hf := ite_f cc hf
    clear cc
    refine lv_iload_n hx hb dX11_isSheet_4 rfl (lv_at hl 0 rfl) ?_
    refine lv_iconst (v := (4 : Int32)) hx hb dX11_isSheet_5 (by decide) ?_
    refine lv_icmp_ge (tgt := 13) hx hb dX11_isSheet_6 (by decide) (fun cc => ?_) (fun cc => ?_)
    ·
      replace hf := ite_t cc hf
      clear cc
      refine lv_iconst (v := (0 : Int32)) hx hb dX11_isSheet_13 (by decide) ?_
      obtain rfl := ou1 hf
      rw [hQ]
      exact W.zret hx hb hr rfl (fun t ht hW => ⟨⟨_, (), rfl, rfl, by rw [ht]; exact hP, va_K.moved hW.alike hK, hD⟩, hS.F ht⟩) hS.2.2 dX11_isSheet_14
    ·
      replace hf := ite_f cc hf
      clear cc
      refine lv_iconst (v := (1 : Int32)) hx hb dX11_isSheet_9 (by decide) ?_
      refine lv_goto (tgt := 14) hx hb dX11_isSheet_10 (by decide) ?_
      obtain rfl := ou1 hf
      rw [hQ]
      exact W.zret hx hb hr rfl (fun t ht hW => ⟨⟨_, (), rfl, rfl, by rw [ht]; exact hP, va_K.moved hW.alike hK, hD⟩, hS.F ht⟩) hS.2.2 dX11_isSheet_14

noncomputable def f_X11_isLane (x0 : Int32) : Option (Int32) := (if x0 < 0 then (some (0 : Int32)) else (if (3 : Int32) ≤ x0 then (some (0 : Int32)) else (some (1 : Int32))))
abbrev rm_X11_isLane : Room := { frames := 0, cells := 0, slots := 0, locals := 0 }
set_option maxHeartbeats 8000000 in
set_option maxRecDepth 100000 in
theorem c_X11_isLane (l : Launch) (D : va_G) (G : Nat → ClassId) (sz : Nat) (x0 : Int32) (r : Int32) (hf : f_X11_isLane x0 = some r) : Met l yX11_isLane wsX11_isLane rm_X11_isLane (pcG D G [.int x0] sz []) (qcI D G r [] (va_A [] sz)) 0 0 (va_A [] sz) := by
  refine Met.ofW (cc := cX11_isLane) (maxL := 1) (ret := (some .boolean)) (by decide) rfl ?_
  intro p e s m args below meth c s₁ B hml hv
  obtain ⟨rfl, hsz, hP, hK, hD0⟩ := hv
  have hx := B.exec
  have hb := B.bytes
  have hr := B.returns
  have hts := atoms_spec (ws := wsX11_isLane) B.pre
  have hown : s.vm.findClass RX11 = some m.cls := findClass_of_methodNamed B.named
  have hlocks := B.notSynchronized
  subst hsz
  have hD := hD0.self (sz := s.heap.size)
  generalize hAe : va_A [] s.heap.size = A at hD ⊢
  have hA : ∀ q : Nat, s.heap.size ≤ q → A q := fun q h => by rw [← hAe]; exact Or.inr h
  clear hAe hD0
  have hS : va_S A s.heap s.heap [] := va_S.rf
  have hl := lv_entry ([.int x0]) (n := 1) (Nat.le_of_ble_eq_true rfl)
  rw [lg_entry_eq]
  generalize (lg_sl ([.int x0]) ++ List.replicate (1 - (lg_sl ([.int x0])).length) Slot.unset).toArray = ls at hl ⊢
  have hl : lv_has ls 1 [(0, .int x0)] := hl
  refine W_nameQ (fun Q hQ => ?_)
  obtain ⟨H, hH⟩ : ∃ H, H = s.heap := ⟨_, rfl⟩
  replace hS : va_S A s.heap H [] := by rw [hH]; exact hS
  replace hP : va_P D vwCl [] H := by rw [hH]; exact hP
  rw [← hH]
  clear hH
  unfold f_X11_isLane at hf
  refine lv_iload_n hx hb dX11_isLane_0 rfl (lv_at hl 0 rfl) ?_
  refine lv_if_lt (tgt := 13) hx hb dX11_isLane_1 (by decide) (fun cc => ?_) (fun cc => ?_)
  ·
    replace hf := ite_t cc hf
    clear cc
    refine lv_iconst (v := (0 : Int32)) hx hb dX11_isLane_13 (by decide) ?_
    obtain rfl := ou1 hf
    rw [hQ]
    exact W.zret hx hb hr rfl (fun t ht hW => ⟨⟨_, (), rfl, rfl, by rw [ht]; exact hP, va_K.moved hW.alike hK, hD⟩, hS.F ht⟩) hS.2.2 dX11_isLane_14
  ·
    replace hf := ite_f cc hf
    clear cc
    refine lv_iload_n hx hb dX11_isLane_4 rfl (lv_at hl 0 rfl) ?_
    refine lv_iconst (v := (3 : Int32)) hx hb dX11_isLane_5 (by decide) ?_
    refine lv_icmp_ge (tgt := 13) hx hb dX11_isLane_6 (by decide) (fun cc => ?_) (fun cc => ?_)
    ·
      replace hf := ite_t cc hf
      clear cc
      refine lv_iconst (v := (0 : Int32)) hx hb dX11_isLane_13 (by decide) ?_
      obtain rfl := ou1 hf
      rw [hQ]
      exact W.zret hx hb hr rfl (fun t ht hW => ⟨⟨_, (), rfl, rfl, by rw [ht]; exact hP, va_K.moved hW.alike hK, hD⟩, hS.F ht⟩) hS.2.2 dX11_isLane_14
    ·
      replace hf := ite_f cc hf
      clear cc
      refine lv_iconst (v := (1 : Int32)) hx hb dX11_isLane_9 (by decide) ?_
      refine lv_goto (tgt := 14) hx hb dX11_isLane_10 (by decide) ?_
      obtain rfl := ou1 hf
      rw [hQ]
      exact W.zret hx hb hr rfl (fun t ht hW => ⟨⟨_, (), rfl, rfl, by rw [ht]; exact hP, va_K.moved hW.alike hK, hD⟩, hS.F ht⟩) hS.2.2 dX11_isLane_14

noncomputable def f_X11_sheet (i_p0_sheets_0_lane : Int32) (i_p0_sheets_0_size : Int32) (v_p0_sheets_0_cells : (Nat → Int32)) (i_p0_sheets_1_lane : Int32) (i_p0_sheets_1_size : Int32) (v_p0_sheets_1_cells : (Nat → Int32)) (i_p0_sheets_2_lane : Int32) (i_p0_sheets_2_size : Int32) (v_p0_sheets_2_cells : (Nat → Int32)) (i_p0_sheets_3_lane : Int32) (i_p0_sheets_3_size : Int32) (v_p0_sheets_3_cells : (Nat → Int32)) (x1 : Int32) (x2 : Int32) (x3 : Int32) : Option (Int32 × Int32 × Int32 × (Nat → Int32) × Int32 × Int32 × (Nat → Int32) × Int32 × Int32 × (Nat → Int32) × Int32 × Int32 × (Nat → Int32)) := (bd1 (f_X11_isSheet x1) (fun (z1 : Int32) => (if z1 = 0 then (some ((-1 : Int32), i_p0_sheets_0_lane, i_p0_sheets_0_size, v_p0_sheets_0_cells, i_p0_sheets_1_lane, i_p0_sheets_1_size, v_p0_sheets_1_cells, i_p0_sheets_2_lane, i_p0_sheets_2_size, v_p0_sheets_2_cells, i_p0_sheets_3_lane, i_p0_sheets_3_size, v_p0_sheets_3_cells)) else (bd1 (f_X11_isLane x2) (fun (z2 : Int32) => (if z2 = 0 then (some ((-1 : Int32), i_p0_sheets_0_lane, i_p0_sheets_0_size, v_p0_sheets_0_cells, i_p0_sheets_1_lane, i_p0_sheets_1_size, v_p0_sheets_1_cells, i_p0_sheets_2_lane, i_p0_sheets_2_size, v_p0_sheets_2_cells, i_p0_sheets_3_lane, i_p0_sheets_3_size, v_p0_sheets_3_cells)) else (if x3 ≤ (40 : Int32) then (if 0 ≤ x3 then (ck (ixB x1 4) (if x1 = (0 : Int32) then (bd3 (f_X7_renew v_p0_sheets_0_cells x2 x3) (fun (z3 : Int32) (z4 : Int32) (w5 : (Nat → Int32)) => (some ((1 : Int32), z3, z4, w5, i_p0_sheets_1_lane, i_p0_sheets_1_size, v_p0_sheets_1_cells, i_p0_sheets_2_lane, i_p0_sheets_2_size, v_p0_sheets_2_cells, i_p0_sheets_3_lane, i_p0_sheets_3_size, v_p0_sheets_3_cells)))) else (if x1 = (1 : Int32) then (bd3 (f_X7_renew v_p0_sheets_1_cells x2 x3) (fun (z6 : Int32) (z7 : Int32) (w8 : (Nat → Int32)) => (some ((1 : Int32), i_p0_sheets_0_lane, i_p0_sheets_0_size, v_p0_sheets_0_cells, z6, z7, w8, i_p0_sheets_2_lane, i_p0_sheets_2_size, v_p0_sheets_2_cells, i_p0_sheets_3_lane, i_p0_sheets_3_size, v_p0_sheets_3_cells)))) else (if x1 = (2 : Int32) then (bd3 (f_X7_renew v_p0_sheets_2_cells x2 x3) (fun (z9 : Int32) (z10 : Int32) (w11 : (Nat → Int32)) => (some ((1 : Int32), i_p0_sheets_0_lane, i_p0_sheets_0_size, v_p0_sheets_0_cells, i_p0_sheets_1_lane, i_p0_sheets_1_size, v_p0_sheets_1_cells, z9, z10, w11, i_p0_sheets_3_lane, i_p0_sheets_3_size, v_p0_sheets_3_cells)))) else (if x1 = (3 : Int32) then (bd3 (f_X7_renew v_p0_sheets_3_cells x2 x3) (fun (z12 : Int32) (z13 : Int32) (w14 : (Nat → Int32)) => (some ((1 : Int32), i_p0_sheets_0_lane, i_p0_sheets_0_size, v_p0_sheets_0_cells, i_p0_sheets_1_lane, i_p0_sheets_1_size, v_p0_sheets_1_cells, i_p0_sheets_2_lane, i_p0_sheets_2_size, v_p0_sheets_2_cells, z12, z13, w14)))) else none))))) else (some ((-14 : Int32), i_p0_sheets_0_lane, i_p0_sheets_0_size, v_p0_sheets_0_cells, i_p0_sheets_1_lane, i_p0_sheets_1_size, v_p0_sheets_1_cells, i_p0_sheets_2_lane, i_p0_sheets_2_size, v_p0_sheets_2_cells, i_p0_sheets_3_lane, i_p0_sheets_3_size, v_p0_sheets_3_cells))) else (some ((-1 : Int32), i_p0_sheets_0_lane, i_p0_sheets_0_size, v_p0_sheets_0_cells, i_p0_sheets_1_lane, i_p0_sheets_1_size, v_p0_sheets_1_cells, i_p0_sheets_2_lane, i_p0_sheets_2_size, v_p0_sheets_2_cells, i_p0_sheets_3_lane, i_p0_sheets_3_size, v_p0_sheets_3_cells)))))))))
abbrev rm_X11_sheet : Room := { frames := 2, cells := 0, slots := 0, locals := 45 }
theorem inX11_sheet_X11 : ∀ w ∈ wsX110, w ∈ wsX11_sheet := by decide +kernel
theorem mwX11_sheet_1 : Cond.fieldLink RX11 95 "LadleKings" "sheets" "[LLadleKings$Sheet;" ∈ wsX11_sheet := by decide +kernel
set_option maxHeartbeats 8000000 in
set_option maxRecDepth 100000 in
theorem c_X11_sheet (l : Launch) (D : va_G) (G : Nat → ClassId) (sz : Nat) (a_p0 : Nat) (a_p0_rules : Nat) (a_p0_state : Nat) (a_p0_tape : Nat) (a_p0_reader : Nat) (a_p0_kitchen : Nat) (a_p0_luck : Nat) (a_p0_plans : Nat) (a_p0_coups : Nat) (a_p0_past : Nat) (a_p0_fairDays : Nat) (a_p0_images : Nat) (a_p0_imageHeld : Nat) (a_p0_sheets : Nat) (a_p0_sheets_0 : Nat) (a_p0_sheets_1 : Nat) (a_p0_sheets_2 : Nat) (a_p0_sheets_3 : Nat) (a_p0_sheets_0_cells : Nat) (a_p0_sheets_1_cells : Nat) (a_p0_sheets_2_cells : Nat) (a_p0_sheets_3_cells : Nat) (i_p0_latestFault : Int32) (i_p0_latestTear : Int32) (i_p0_sheets_0_lane : Int32) (i_p0_sheets_0_size : Int32) (v_p0_sheets_0_cells : (Nat → Int32)) (i_p0_sheets_1_lane : Int32) (i_p0_sheets_1_size : Int32) (v_p0_sheets_1_cells : (Nat → Int32)) (i_p0_sheets_2_lane : Int32) (i_p0_sheets_2_size : Int32) (v_p0_sheets_2_cells : (Nat → Int32)) (i_p0_sheets_3_lane : Int32) (i_p0_sheets_3_size : Int32) (v_p0_sheets_3_cells : (Nat → Int32)) (x1 : Int32) (x2 : Int32) (x3 : Int32) (r : Int32) (o_i_p0_sheets_0_lane : Int32) (o_i_p0_sheets_0_size : Int32) (o_v_p0_sheets_0_cells : (Nat → Int32)) (o_i_p0_sheets_1_lane : Int32) (o_i_p0_sheets_1_size : Int32) (o_v_p0_sheets_1_cells : (Nat → Int32)) (o_i_p0_sheets_2_lane : Int32) (o_i_p0_sheets_2_size : Int32) (o_v_p0_sheets_2_cells : (Nat → Int32)) (o_i_p0_sheets_3_lane : Int32) (o_i_p0_sheets_3_size : Int32) (o_v_p0_sheets_3_cells : (Nat → Int32)) (hf : f_X11_sheet i_p0_sheets_0_lane i_p0_sheets_0_size v_p0_sheets_0_cells i_p0_sheets_1_lane i_p0_sheets_1_size v_p0_sheets_1_cells i_p0_sheets_2_lane i_p0_sheets_2_size v_p0_sheets_2_cells i_p0_sheets_3_lane i_p0_sheets_3_size v_p0_sheets_3_cells x1 x2 x3 = some (r, o_i_p0_sheets_0_lane, o_i_p0_sheets_0_size, o_v_p0_sheets_0_cells, o_i_p0_sheets_1_lane, o_i_p0_sheets_1_size, o_v_p0_sheets_1_cells, o_i_p0_sheets_2_lane, o_i_p0_sheets_2_size, o_v_p0_sheets_2_cells, o_i_p0_sheets_3_lane, o_i_p0_sheets_3_size, o_v_p0_sheets_3_cells)) : Met l yX11_sheet wsX11_sheet rm_X11_sheet (pcG D G [.ref a_p0, .int x1, .int x2, .int x3] sz [(a_p0, .inr (11, [.ref a_p0_rules, .ref a_p0_state, .ref a_p0_tape, .ref a_p0_reader, .ref a_p0_kitchen, .ref a_p0_luck, .ref a_p0_plans, .ref a_p0_coups, .ref a_p0_past, .ref a_p0_fairDays, .ref a_p0_images, .ref a_p0_imageHeld, .ref a_p0_sheets, .int i_p0_latestFault, .int i_p0_latestTear])), (a_p0_sheets, .inl (G 5, 4, .inr (.inr (.inr (.inr (va_up (va_up (va_up (va_up (fun _ => none) 0 (some a_p0_sheets_0)) 1 (some a_p0_sheets_1)) 2 (some a_p0_sheets_2)) 3 (some a_p0_sheets_3))))))), (a_p0_sheets_0, .inr (7, [.int i_p0_sheets_0_lane, .int i_p0_sheets_0_size, .ref a_p0_sheets_0_cells])), (a_p0_sheets_0_cells, .inl (G 1, 40, .inl v_p0_sheets_0_cells)), (a_p0_sheets_1, .inr (7, [.int i_p0_sheets_1_lane, .int i_p0_sheets_1_size, .ref a_p0_sheets_1_cells])), (a_p0_sheets_1_cells, .inl (G 1, 40, .inl v_p0_sheets_1_cells)), (a_p0_sheets_2, .inr (7, [.int i_p0_sheets_2_lane, .int i_p0_sheets_2_size, .ref a_p0_sheets_2_cells])), (a_p0_sheets_2_cells, .inl (G 1, 40, .inl v_p0_sheets_2_cells)), (a_p0_sheets_3, .inr (7, [.int i_p0_sheets_3_lane, .int i_p0_sheets_3_size, .ref a_p0_sheets_3_cells])), (a_p0_sheets_3_cells, .inl (G 1, 40, .inl v_p0_sheets_3_cells))]) (qcI D G r [(a_p0, .inr (11, [.ref a_p0_rules, .ref a_p0_state, .ref a_p0_tape, .ref a_p0_reader, .ref a_p0_kitchen, .ref a_p0_luck, .ref a_p0_plans, .ref a_p0_coups, .ref a_p0_past, .ref a_p0_fairDays, .ref a_p0_images, .ref a_p0_imageHeld, .ref a_p0_sheets, .int i_p0_latestFault, .int i_p0_latestTear])), (a_p0_sheets, .inl (G 5, 4, .inr (.inr (.inr (.inr (va_up (va_up (va_up (va_up (fun _ => none) 0 (some a_p0_sheets_0)) 1 (some a_p0_sheets_1)) 2 (some a_p0_sheets_2)) 3 (some a_p0_sheets_3))))))), (a_p0_sheets_0, .inr (7, [.int o_i_p0_sheets_0_lane, .int o_i_p0_sheets_0_size, .ref a_p0_sheets_0_cells])), (a_p0_sheets_0_cells, .inl (G 1, 40, .inl o_v_p0_sheets_0_cells)), (a_p0_sheets_1, .inr (7, [.int o_i_p0_sheets_1_lane, .int o_i_p0_sheets_1_size, .ref a_p0_sheets_1_cells])), (a_p0_sheets_1_cells, .inl (G 1, 40, .inl o_v_p0_sheets_1_cells)), (a_p0_sheets_2, .inr (7, [.int o_i_p0_sheets_2_lane, .int o_i_p0_sheets_2_size, .ref a_p0_sheets_2_cells])), (a_p0_sheets_2_cells, .inl (G 1, 40, .inl o_v_p0_sheets_2_cells)), (a_p0_sheets_3, .inr (7, [.int o_i_p0_sheets_3_lane, .int o_i_p0_sheets_3_size, .ref a_p0_sheets_3_cells])), (a_p0_sheets_3_cells, .inl (G 1, 40, .inl o_v_p0_sheets_3_cells))] (va_A [(a_p0, .inr (11, [.ref a_p0_rules, .ref a_p0_state, .ref a_p0_tape, .ref a_p0_reader, .ref a_p0_kitchen, .ref a_p0_luck, .ref a_p0_plans, .ref a_p0_coups, .ref a_p0_past, .ref a_p0_fairDays, .ref a_p0_images, .ref a_p0_imageHeld, .ref a_p0_sheets, .int i_p0_latestFault, .int i_p0_latestTear])), (a_p0_sheets, .inl (G 5, 4, .inr (.inr (.inr (.inr (va_up (va_up (va_up (va_up (fun _ => none) 0 (some a_p0_sheets_0)) 1 (some a_p0_sheets_1)) 2 (some a_p0_sheets_2)) 3 (some a_p0_sheets_3))))))), (a_p0_sheets_0, .inr (7, [.int i_p0_sheets_0_lane, .int i_p0_sheets_0_size, .ref a_p0_sheets_0_cells])), (a_p0_sheets_0_cells, .inl (G 1, 40, .inl v_p0_sheets_0_cells)), (a_p0_sheets_1, .inr (7, [.int i_p0_sheets_1_lane, .int i_p0_sheets_1_size, .ref a_p0_sheets_1_cells])), (a_p0_sheets_1_cells, .inl (G 1, 40, .inl v_p0_sheets_1_cells)), (a_p0_sheets_2, .inr (7, [.int i_p0_sheets_2_lane, .int i_p0_sheets_2_size, .ref a_p0_sheets_2_cells])), (a_p0_sheets_2_cells, .inl (G 1, 40, .inl v_p0_sheets_2_cells)), (a_p0_sheets_3, .inr (7, [.int i_p0_sheets_3_lane, .int i_p0_sheets_3_size, .ref a_p0_sheets_3_cells])), (a_p0_sheets_3_cells, .inl (G 1, 40, .inl v_p0_sheets_3_cells))] sz)) 0 0 (va_A [(a_p0, .inr (11, [.ref a_p0_rules, .ref a_p0_state, .ref a_p0_tape, .ref a_p0_reader, .ref a_p0_kitchen, .ref a_p0_luck, .ref a_p0_plans, .ref a_p0_coups, .ref a_p0_past, .ref a_p0_fairDays, .ref a_p0_images, .ref a_p0_imageHeld, .ref a_p0_sheets, .int i_p0_latestFault, .int i_p0_latestTear])), (a_p0_sheets, .inl (G 5, 4, .inr (.inr (.inr (.inr (va_up (va_up (va_up (va_up (fun _ => none) 0 (some a_p0_sheets_0)) 1 (some a_p0_sheets_1)) 2 (some a_p0_sheets_2)) 3 (some a_p0_sheets_3))))))), (a_p0_sheets_0, .inr (7, [.int i_p0_sheets_0_lane, .int i_p0_sheets_0_size, .ref a_p0_sheets_0_cells])), (a_p0_sheets_0_cells, .inl (G 1, 40, .inl v_p0_sheets_0_cells)), (a_p0_sheets_1, .inr (7, [.int i_p0_sheets_1_lane, .int i_p0_sheets_1_size, .ref a_p0_sheets_1_cells])), (a_p0_sheets_1_cells, .inl (G 1, 40, .inl v_p0_sheets_1_cells)), (a_p0_sheets_2, .inr (7, [.int i_p0_sheets_2_lane, .int i_p0_sheets_2_size, .ref a_p0_sheets_2_cells])), (a_p0_sheets_2_cells, .inl (G 1, 40, .inl v_p0_sheets_2_cells)), (a_p0_sheets_3, .inr (7, [.int i_p0_sheets_3_lane, .int i_p0_sheets_3_size, .ref a_p0_sheets_3_cells])), (a_p0_sheets_3_cells, .inl (G 1, 40, .inl v_p0_sheets_3_cells))] sz) := by
  refine Met.ofW (cc := cX11_sheet) (maxL := 4) (ret := (some .int)) (by decide) rfl ?_
  intro p e s m args below meth c s₁ B hml hv
  obtain ⟨rfl, hsz, hP, hK, hD0⟩ := hv
  have hx := B.exec
  have hb := B.bytes
  have hr := B.returns
  have hts := atoms_spec (ws := wsX11_sheet) B.pre
  have hown : s.vm.findClass RX11 = some m.cls := findClass_of_methodNamed B.named
  have hlocks := B.notSynchronized
  subst hsz
  have hD := hD0.self (sz := s.heap.size)
  generalize hAe : va_A [(a_p0, .inr (11, [.ref a_p0_rules, .ref a_p0_state, .ref a_p0_tape, .ref a_p0_reader, .ref a_p0_kitchen, .ref a_p0_luck, .ref a_p0_plans, .ref a_p0_coups, .ref a_p0_past, .ref a_p0_fairDays, .ref a_p0_images, .ref a_p0_imageHeld, .ref a_p0_sheets, .int i_p0_latestFault, .int i_p0_latestTear])), (a_p0_sheets, .inl (G 5, 4, .inr (.inr (.inr (.inr (va_up (va_up (va_up (va_up (fun _ => none) 0 (some a_p0_sheets_0)) 1 (some a_p0_sheets_1)) 2 (some a_p0_sheets_2)) 3 (some a_p0_sheets_3))))))), (a_p0_sheets_0, .inr (7, [.int i_p0_sheets_0_lane, .int i_p0_sheets_0_size, .ref a_p0_sheets_0_cells])), (a_p0_sheets_0_cells, .inl (G 1, 40, .inl v_p0_sheets_0_cells)), (a_p0_sheets_1, .inr (7, [.int i_p0_sheets_1_lane, .int i_p0_sheets_1_size, .ref a_p0_sheets_1_cells])), (a_p0_sheets_1_cells, .inl (G 1, 40, .inl v_p0_sheets_1_cells)), (a_p0_sheets_2, .inr (7, [.int i_p0_sheets_2_lane, .int i_p0_sheets_2_size, .ref a_p0_sheets_2_cells])), (a_p0_sheets_2_cells, .inl (G 1, 40, .inl v_p0_sheets_2_cells)), (a_p0_sheets_3, .inr (7, [.int i_p0_sheets_3_lane, .int i_p0_sheets_3_size, .ref a_p0_sheets_3_cells])), (a_p0_sheets_3_cells, .inl (G 1, 40, .inl v_p0_sheets_3_cells))] s.heap.size = A at hD ⊢
  have hA : ∀ q : Nat, s.heap.size ≤ q → A q := fun q h => by rw [← hAe]; exact Or.inr h
  clear hAe hD0
  have hS : va_S A s.heap s.heap [] := va_S.rf
  have hl := lv_entry ([.ref a_p0, .int x1, .int x2, .int x3]) (n := 4) (Nat.le_of_ble_eq_true rfl)
  rw [lg_entry_eq]
  generalize (lg_sl ([.ref a_p0, .int x1, .int x2, .int x3]) ++ List.replicate (4 - (lg_sl ([.ref a_p0, .int x1, .int x2, .int x3])).length) Slot.unset).toArray = ls at hl ⊢
  have hl : lv_has ls 4 [(0, .ref a_p0), (1, .int x1), (2, .int x2), (3, .int x3)] := hl
  refine W_nameQ (fun Q hQ => ?_)
  obtain ⟨H, hH⟩ : ∃ H, H = s.heap := ⟨_, rfl⟩
  replace hS : va_S A s.heap H [] := by rw [hH]; exact hS
  replace hP : va_P D vwCl [(a_p0, .inr (11, [.ref a_p0_rules, .ref a_p0_state, .ref a_p0_tape, .ref a_p0_reader, .ref a_p0_kitchen, .ref a_p0_luck, .ref a_p0_plans, .ref a_p0_coups, .ref a_p0_past, .ref a_p0_fairDays, .ref a_p0_images, .ref a_p0_imageHeld, .ref a_p0_sheets, .int i_p0_latestFault, .int i_p0_latestTear])), (a_p0_sheets, .inl (G 5, 4, .inr (.inr (.inr (.inr (va_up (va_up (va_up (va_up (fun _ => none) 0 (some a_p0_sheets_0)) 1 (some a_p0_sheets_1)) 2 (some a_p0_sheets_2)) 3 (some a_p0_sheets_3))))))), (a_p0_sheets_0, .inr (7, [.int i_p0_sheets_0_lane, .int i_p0_sheets_0_size, .ref a_p0_sheets_0_cells])), (a_p0_sheets_0_cells, .inl (G 1, 40, .inl v_p0_sheets_0_cells)), (a_p0_sheets_1, .inr (7, [.int i_p0_sheets_1_lane, .int i_p0_sheets_1_size, .ref a_p0_sheets_1_cells])), (a_p0_sheets_1_cells, .inl (G 1, 40, .inl v_p0_sheets_1_cells)), (a_p0_sheets_2, .inr (7, [.int i_p0_sheets_2_lane, .int i_p0_sheets_2_size, .ref a_p0_sheets_2_cells])), (a_p0_sheets_2_cells, .inl (G 1, 40, .inl v_p0_sheets_2_cells)), (a_p0_sheets_3, .inr (7, [.int i_p0_sheets_3_lane, .int i_p0_sheets_3_size, .ref a_p0_sheets_3_cells])), (a_p0_sheets_3_cells, .inl (G 1, 40, .inl v_p0_sheets_3_cells))] H := by rw [hH]; exact hP
  rw [← hH]
  clear hH
  unfold f_X11_sheet at hf
  refine lv_iload_n hx hb dX11_sheet_0 rfl (lv_at hl 1 rfl) ?_
  have hq := bd1_s hf
  clear hf
  obtain ⟨z1, hcall, hf⟩ := hq
  refine gcI (ws' := [(a_p0, .inr (11, [.ref a_p0_rules, .ref a_p0_state, .ref a_p0_tape, .ref a_p0_reader, .ref a_p0_kitchen, .ref a_p0_luck, .ref a_p0_plans, .ref a_p0_coups, .ref a_p0_past, .ref a_p0_fairDays, .ref a_p0_images, .ref a_p0_imageHeld, .ref a_p0_sheets, .int i_p0_latestFault, .int i_p0_latestTear])), (a_p0_sheets, .inl (G 5, 4, .inr (.inr (.inr (.inr (va_up (va_up (va_up (va_up (fun _ => none) 0 (some a_p0_sheets_0)) 1 (some a_p0_sheets_1)) 2 (some a_p0_sheets_2)) 3 (some a_p0_sheets_3))))))), (a_p0_sheets_0, .inr (7, [.int i_p0_sheets_0_lane, .int i_p0_sheets_0_size, .ref a_p0_sheets_0_cells])), (a_p0_sheets_0_cells, .inl (G 1, 40, .inl v_p0_sheets_0_cells)), (a_p0_sheets_1, .inr (7, [.int i_p0_sheets_1_lane, .int i_p0_sheets_1_size, .ref a_p0_sheets_1_cells])), (a_p0_sheets_1_cells, .inl (G 1, 40, .inl v_p0_sheets_1_cells)), (a_p0_sheets_2, .inr (7, [.int i_p0_sheets_2_lane, .int i_p0_sheets_2_size, .ref a_p0_sheets_2_cells])), (a_p0_sheets_2_cells, .inl (G 1, 40, .inl v_p0_sheets_2_cells)), (a_p0_sheets_3, .inr (7, [.int i_p0_sheets_3_lane, .int i_p0_sheets_3_size, .ref a_p0_sheets_3_cells])), (a_p0_sheets_3_cells, .inl (G 1, 40, .inl v_p0_sheets_3_cells))]) (va_runS (As := [.int x1]) (rest := []) ⟨hx, hb, hml, hown, hts⟩ (c_X11_isSheet (l := l) (D := D) (G := G) (sz := H.size) (x0 := x1) (r := z1) (hf := hcall)) (va_cwS 1 hts gX11_sheet_X11_isSheet rfl rfl rfl (by decide +kernel) ⟨Nat.le_of_ble_eq_true rfl, Nat.le_of_ble_eq_true rfl⟩) (preG_S (hP.sub [] rfl) (hD.sub [] rfl rfl) hK) rfl rfl hl.1 rfl (lv_room (Nat.le_of_ble_eq_true rfl)) dX11_sheet_1 ⟨Nat.le_of_ble_eq_true rfl, Nat.le_of_ble_eq_true rfl⟩) hP hD hS hA [] [0, 1, 2, 3, 4, 5, 6, 7, 8, 9] [0, 1, 2, 3, 4, 5, 6, 7, 8, 9] rfl rfl rfl (by decide) rfl rfl rfl (fun H locs hP hD hS => ?_)
  clear hcall
  refine lv_if_eq (tgt := 20) hx hb dX11_sheet_4 (by decide) (fun cc => ?_) (fun cc => ?_)
  ·
    replace hf := ite_t cc hf
    clear cc
    refine lv_iconst (v := (-1 : Int32)) hx hb dX11_sheet_20 (by decide) ?_
    obtain ⟨rfl, rfl, rfl, rfl, rfl, rfl, rfl, rfl, rfl, rfl, rfl, rfl, rfl⟩ := ou13 hf
    rw [hQ]
    exact W.iret hx hb hr (fun t ht hW => ⟨⟨_, (), rfl, rfl, by rw [ht]; exact hP, va_K.moved hW.alike hK, hD⟩, hS.F ht⟩) hS.2.2 dX11_sheet_21
  ·
    replace hf := ite_f cc hf
    clear cc
    refine lv_iload_n hx hb dX11_sheet_7 rfl (lv_at hl 2 rfl) ?_
    have hq := bd1_s hf
    clear hf
    obtain ⟨z2, hcall, hf⟩ := hq
    refine gcI (ws' := [(a_p0, .inr (11, [.ref a_p0_rules, .ref a_p0_state, .ref a_p0_tape, .ref a_p0_reader, .ref a_p0_kitchen, .ref a_p0_luck, .ref a_p0_plans, .ref a_p0_coups, .ref a_p0_past, .ref a_p0_fairDays, .ref a_p0_images, .ref a_p0_imageHeld, .ref a_p0_sheets, .int i_p0_latestFault, .int i_p0_latestTear])), (a_p0_sheets, .inl (G 5, 4, .inr (.inr (.inr (.inr (va_up (va_up (va_up (va_up (fun _ => none) 0 (some a_p0_sheets_0)) 1 (some a_p0_sheets_1)) 2 (some a_p0_sheets_2)) 3 (some a_p0_sheets_3))))))), (a_p0_sheets_0, .inr (7, [.int i_p0_sheets_0_lane, .int i_p0_sheets_0_size, .ref a_p0_sheets_0_cells])), (a_p0_sheets_0_cells, .inl (G 1, 40, .inl v_p0_sheets_0_cells)), (a_p0_sheets_1, .inr (7, [.int i_p0_sheets_1_lane, .int i_p0_sheets_1_size, .ref a_p0_sheets_1_cells])), (a_p0_sheets_1_cells, .inl (G 1, 40, .inl v_p0_sheets_1_cells)), (a_p0_sheets_2, .inr (7, [.int i_p0_sheets_2_lane, .int i_p0_sheets_2_size, .ref a_p0_sheets_2_cells])), (a_p0_sheets_2_cells, .inl (G 1, 40, .inl v_p0_sheets_2_cells)), (a_p0_sheets_3, .inr (7, [.int i_p0_sheets_3_lane, .int i_p0_sheets_3_size, .ref a_p0_sheets_3_cells])), (a_p0_sheets_3_cells, .inl (G 1, 40, .inl v_p0_sheets_3_cells))]) (va_runS (As := [.int x2]) (rest := []) ⟨hx, hb, hml, hown, hts⟩ (c_X11_isLane (l := l) (D := D) (G := G) (sz := H.size) (x0 := x2) (r := z2) (hf := hcall)) (va_cwS 1 hts gX11_sheet_X11_isLane rfl rfl rfl (by decide +kernel) ⟨Nat.le_of_ble_eq_true rfl, Nat.le_of_ble_eq_true rfl⟩) (preG_S (hP.sub [] rfl) (hD.sub [] rfl rfl) hK) rfl rfl hl.1 rfl (lv_room (Nat.le_of_ble_eq_true rfl)) dX11_sheet_8 ⟨Nat.le_of_ble_eq_true rfl, Nat.le_of_ble_eq_true rfl⟩) hP hD hS hA [] [0, 1, 2, 3, 4, 5, 6, 7, 8, 9] [0, 1, 2, 3, 4, 5, 6, 7, 8, 9] rfl rfl rfl (by decide) rfl rfl rfl (fun H locs hP hD hS => ?_)
    clear hcall
    refine lv_if_eq (tgt := 20) hx hb dX11_sheet_11 (by decide) (fun cc => ?_) (fun cc => ?_)
    ·
      replace hf := ite_t cc hf
      clear cc
      refine lv_iconst (v := (-1 : Int32)) hx hb dX11_sheet_20 (by decide) ?_
      obtain ⟨rfl, rfl, rfl, rfl, rfl, rfl, rfl, rfl, rfl, rfl, rfl, rfl, rfl⟩ := ou13 hf
      rw [hQ]
      exact W.iret hx hb hr (fun t ht hW => ⟨⟨_, (), rfl, rfl, by rw [ht]; exact hP, va_K.moved hW.alike hK, hD⟩, hS.F ht⟩) hS.2.2 dX11_sheet_21
    ·
      replace hf := ite_f cc hf
      clear cc
      refine lv_iload_n hx hb dX11_sheet_14 rfl (lv_at hl 3 rfl) ?_
      refine lv_bipush (v := (40 : Int32)) hx hb dX11_sheet_15 (by decide) ?_
      refine lv_icmp_le (tgt := 22) hx hb dX11_sheet_17 (by decide) (fun cc => ?_) (fun cc => ?_)
      ·
        replace hf := ite_t cc hf
        clear cc
        refine lv_iload_n hx hb dX11_sheet_22 rfl (lv_at hl 3 rfl) ?_
        refine lv_if_ge (tgt := 29) hx hb dX11_sheet_23 (by decide) (fun cc => ?_) (fun cc => ?_)
        ·
          replace hf := ite_t cc hf
          clear cc
          refine lv_aload_n hx hb dX11_sheet_29 rfl (lv_at hl 0 rfl) ?_
          refine va_get (D := D) (ci := 11) (v := .ref a_p0_sheets) (C := RX11) (T := TX11) (N := 15) hx hb hts inX11_sheet_X11 hown hK hP 0 rfl rfl 12 (by decide) (hts _ mwX11_sheet_1) (fun _ h9 => h9) rfl dX11_sheet_30 ?_
          refine lv_iload_n hx hb dX11_sheet_33 rfl (lv_at hl 1 rfl) ?_
          have hc := ck_c hf
          replace hf := ck_r hf
          refine va_aldq hx hb hK hP 1 5 rfl rfl (ixB_in hc) dX11_sheet_34 ?_
          clear hc
          rcases Decidable.em (x1 = (0 : Int32)) with cc | cc
          ·
            replace hf := ite_t cc hf
            refine W.eq (g2 := F0 m 35 ls [.ref a_p0_sheets_0]) (by rw [cc]; rfl) ?_
            clear cc
            refine lv_iload_n hx hb dX11_sheet_35 rfl (lv_at hl 2 rfl) ?_
            refine lv_iload_n hx hb dX11_sheet_36 rfl (lv_at hl 3 rfl) ?_
            have hq := bd3_s hf
            clear hf
            obtain ⟨z3, z4, w5, hcall, hf⟩ := hq
            refine gcV (ws' := [(a_p0, .inr (11, [.ref a_p0_rules, .ref a_p0_state, .ref a_p0_tape, .ref a_p0_reader, .ref a_p0_kitchen, .ref a_p0_luck, .ref a_p0_plans, .ref a_p0_coups, .ref a_p0_past, .ref a_p0_fairDays, .ref a_p0_images, .ref a_p0_imageHeld, .ref a_p0_sheets, .int i_p0_latestFault, .int i_p0_latestTear])), (a_p0_sheets, .inl (G 5, 4, .inr (.inr (.inr (.inr (va_up (va_up (va_up (va_up (fun _ => none) 0 (some a_p0_sheets_0)) 1 (some a_p0_sheets_1)) 2 (some a_p0_sheets_2)) 3 (some a_p0_sheets_3))))))), (a_p0_sheets_0, .inr (7, [.int z3, .int z4, .ref a_p0_sheets_0_cells])), (a_p0_sheets_0_cells, .inl (G 1, 40, .inl w5)), (a_p0_sheets_1, .inr (7, [.int i_p0_sheets_1_lane, .int i_p0_sheets_1_size, .ref a_p0_sheets_1_cells])), (a_p0_sheets_1_cells, .inl (G 1, 40, .inl v_p0_sheets_1_cells)), (a_p0_sheets_2, .inr (7, [.int i_p0_sheets_2_lane, .int i_p0_sheets_2_size, .ref a_p0_sheets_2_cells])), (a_p0_sheets_2_cells, .inl (G 1, 40, .inl v_p0_sheets_2_cells)), (a_p0_sheets_3, .inr (7, [.int i_p0_sheets_3_lane, .int i_p0_sheets_3_size, .ref a_p0_sheets_3_cells])), (a_p0_sheets_3_cells, .inl (G 1, 40, .inl v_p0_sheets_3_cells))]) (va_runV (As := [.int x2, .int x3]) (rest := []) ⟨hx, hb, hml, hown, hts⟩ (c_X7_renew (l := l) (D := D) (G := G) (sz := H.size) (a_p0 := a_p0_sheets_0) (a_p0_cells := a_p0_sheets_0_cells) (i_p0_lane := i_p0_sheets_0_lane) (i_p0_size := i_p0_sheets_0_size) (v_p0_cells := v_p0_sheets_0_cells) (x1 := x2) (x2 := x3) (o_i_p0_lane := z3) (o_i_p0_size := z4) (o_v_p0_cells := w5) (hf := hcall)) (cwV 2 hts gX11_sheet_X7_renew rfl rfl rfl (by decide +kernel) ⟨Nat.le_of_ble_eq_true rfl, Nat.le_of_ble_eq_true rfl⟩) (preG_V (ci := 7) (hP.sub [2, 3] rfl) (hD.sub [2, 3] rfl rfl) hK rfl rfl) rfl rfl hl.1 rfl (lv_room (Nat.le_of_ble_eq_true rfl)) dX11_sheet_37 ⟨Nat.le_of_ble_eq_true rfl, Nat.le_of_ble_eq_true rfl⟩) hP hD hS hA [2, 3] [0, 1, 4, 5, 6, 7, 8, 9] [0, 1, 8, 9, 2, 3, 4, 5, 6, 7] rfl rfl rfl (by decide) rfl rfl rfl (fun H locs hP hD hS => ?_)
            clear hcall
            refine lv_iconst (v := (1 : Int32)) hx hb dX11_sheet_40 (by decide) ?_
            obtain ⟨rfl, rfl, rfl, rfl, rfl, rfl, rfl, rfl, rfl, rfl, rfl, rfl, rfl⟩ := ou13 hf
            rw [hQ]
            exact W.iret hx hb hr (fun t ht hW => ⟨⟨_, (), rfl, rfl, by rw [ht]; exact hP, va_K.moved hW.alike hK, hD⟩, hS.F ht⟩) hS.2.2 dX11_sheet_41
          replace hf := ite_f cc hf
          clear cc
          rcases Decidable.em (x1 = (1 : Int32)) with cc | cc
          ·
            replace hf := ite_t cc hf
            refine W.eq (g2 := F0 m 35 ls [.ref a_p0_sheets_1]) (by rw [cc]; rfl) ?_
            clear cc
            refine lv_iload_n hx hb dX11_sheet_35 rfl (lv_at hl 2 rfl) ?_
            refine lv_iload_n hx hb dX11_sheet_36 rfl (lv_at hl 3 rfl) ?_
            have hq := bd3_s hf
            clear hf
            obtain ⟨z6, z7, w8, hcall, hf⟩ := hq
            refine gcV (ws' := [(a_p0, .inr (11, [.ref a_p0_rules, .ref a_p0_state, .ref a_p0_tape, .ref a_p0_reader, .ref a_p0_kitchen, .ref a_p0_luck, .ref a_p0_plans, .ref a_p0_coups, .ref a_p0_past, .ref a_p0_fairDays, .ref a_p0_images, .ref a_p0_imageHeld, .ref a_p0_sheets, .int i_p0_latestFault, .int i_p0_latestTear])), (a_p0_sheets, .inl (G 5, 4, .inr (.inr (.inr (.inr (va_up (va_up (va_up (va_up (fun _ => none) 0 (some a_p0_sheets_0)) 1 (some a_p0_sheets_1)) 2 (some a_p0_sheets_2)) 3 (some a_p0_sheets_3))))))), (a_p0_sheets_0, .inr (7, [.int i_p0_sheets_0_lane, .int i_p0_sheets_0_size, .ref a_p0_sheets_0_cells])), (a_p0_sheets_0_cells, .inl (G 1, 40, .inl v_p0_sheets_0_cells)), (a_p0_sheets_1, .inr (7, [.int z6, .int z7, .ref a_p0_sheets_1_cells])), (a_p0_sheets_1_cells, .inl (G 1, 40, .inl w8)), (a_p0_sheets_2, .inr (7, [.int i_p0_sheets_2_lane, .int i_p0_sheets_2_size, .ref a_p0_sheets_2_cells])), (a_p0_sheets_2_cells, .inl (G 1, 40, .inl v_p0_sheets_2_cells)), (a_p0_sheets_3, .inr (7, [.int i_p0_sheets_3_lane, .int i_p0_sheets_3_size, .ref a_p0_sheets_3_cells])), (a_p0_sheets_3_cells, .inl (G 1, 40, .inl v_p0_sheets_3_cells))]) (va_runV (As := [.int x2, .int x3]) (rest := []) ⟨hx, hb, hml, hown, hts⟩ (c_X7_renew (l := l) (D := D) (G := G) (sz := H.size) (a_p0 := a_p0_sheets_1) (a_p0_cells := a_p0_sheets_1_cells) (i_p0_lane := i_p0_sheets_1_lane) (i_p0_size := i_p0_sheets_1_size) (v_p0_cells := v_p0_sheets_1_cells) (x1 := x2) (x2 := x3) (o_i_p0_lane := z6) (o_i_p0_size := z7) (o_v_p0_cells := w8) (hf := hcall)) (cwV 2 hts gX11_sheet_X7_renew rfl rfl rfl (by decide +kernel) ⟨Nat.le_of_ble_eq_true rfl, Nat.le_of_ble_eq_true rfl⟩) (preG_V (ci := 7) (hP.sub [4, 5] rfl) (hD.sub [4, 5] rfl rfl) hK rfl rfl) rfl rfl hl.1 rfl (lv_room (Nat.le_of_ble_eq_true rfl)) dX11_sheet_37 ⟨Nat.le_of_ble_eq_true rfl, Nat.le_of_ble_eq_true rfl⟩) hP hD hS hA [4, 5] [0, 1, 2, 3, 6, 7, 8, 9] [0, 1, 2, 3, 8, 9, 4, 5, 6, 7] rfl rfl rfl (by decide) rfl rfl rfl (fun H locs hP hD hS => ?_)
            clear hcall
            refine lv_iconst (v := (1 : Int32)) hx hb dX11_sheet_40 (by decide) ?_
            obtain ⟨rfl, rfl, rfl, rfl, rfl, rfl, rfl, rfl, rfl, rfl, rfl, rfl, rfl⟩ := ou13 hf
            rw [hQ]
            exact W.iret hx hb hr (fun t ht hW => ⟨⟨_, (), rfl, rfl, by rw [ht]; exact hP, va_K.moved hW.alike hK, hD⟩, hS.F ht⟩) hS.2.2 dX11_sheet_41
          replace hf := ite_f cc hf
          clear cc
          rcases Decidable.em (x1 = (2 : Int32)) with cc | cc
          ·
            replace hf := ite_t cc hf
            refine W.eq (g2 := F0 m 35 ls [.ref a_p0_sheets_2]) (by rw [cc]; rfl) ?_
            clear cc
            refine lv_iload_n hx hb dX11_sheet_35 rfl (lv_at hl 2 rfl) ?_
            refine lv_iload_n hx hb dX11_sheet_36 rfl (lv_at hl 3 rfl) ?_
            have hq := bd3_s hf
            clear hf
            obtain ⟨z9, z10, w11, hcall, hf⟩ := hq
            refine gcV (ws' := [(a_p0, .inr (11, [.ref a_p0_rules, .ref a_p0_state, .ref a_p0_tape, .ref a_p0_reader, .ref a_p0_kitchen, .ref a_p0_luck, .ref a_p0_plans, .ref a_p0_coups, .ref a_p0_past, .ref a_p0_fairDays, .ref a_p0_images, .ref a_p0_imageHeld, .ref a_p0_sheets, .int i_p0_latestFault, .int i_p0_latestTear])), (a_p0_sheets, .inl (G 5, 4, .inr (.inr (.inr (.inr (va_up (va_up (va_up (va_up (fun _ => none) 0 (some a_p0_sheets_0)) 1 (some a_p0_sheets_1)) 2 (some a_p0_sheets_2)) 3 (some a_p0_sheets_3))))))), (a_p0_sheets_0, .inr (7, [.int i_p0_sheets_0_lane, .int i_p0_sheets_0_size, .ref a_p0_sheets_0_cells])), (a_p0_sheets_0_cells, .inl (G 1, 40, .inl v_p0_sheets_0_cells)), (a_p0_sheets_1, .inr (7, [.int i_p0_sheets_1_lane, .int i_p0_sheets_1_size, .ref a_p0_sheets_1_cells])), (a_p0_sheets_1_cells, .inl (G 1, 40, .inl v_p0_sheets_1_cells)), (a_p0_sheets_2, .inr (7, [.int z9, .int z10, .ref a_p0_sheets_2_cells])), (a_p0_sheets_2_cells, .inl (G 1, 40, .inl w11)), (a_p0_sheets_3, .inr (7, [.int i_p0_sheets_3_lane, .int i_p0_sheets_3_size, .ref a_p0_sheets_3_cells])), (a_p0_sheets_3_cells, .inl (G 1, 40, .inl v_p0_sheets_3_cells))]) (va_runV (As := [.int x2, .int x3]) (rest := []) ⟨hx, hb, hml, hown, hts⟩ (c_X7_renew (l := l) (D := D) (G := G) (sz := H.size) (a_p0 := a_p0_sheets_2) (a_p0_cells := a_p0_sheets_2_cells) (i_p0_lane := i_p0_sheets_2_lane) (i_p0_size := i_p0_sheets_2_size) (v_p0_cells := v_p0_sheets_2_cells) (x1 := x2) (x2 := x3) (o_i_p0_lane := z9) (o_i_p0_size := z10) (o_v_p0_cells := w11) (hf := hcall)) (cwV 2 hts gX11_sheet_X7_renew rfl rfl rfl (by decide +kernel) ⟨Nat.le_of_ble_eq_true rfl, Nat.le_of_ble_eq_true rfl⟩) (preG_V (ci := 7) (hP.sub [6, 7] rfl) (hD.sub [6, 7] rfl rfl) hK rfl rfl) rfl rfl hl.1 rfl (lv_room (Nat.le_of_ble_eq_true rfl)) dX11_sheet_37 ⟨Nat.le_of_ble_eq_true rfl, Nat.le_of_ble_eq_true rfl⟩) hP hD hS hA [6, 7] [0, 1, 2, 3, 4, 5, 8, 9] [0, 1, 2, 3, 4, 5, 8, 9, 6, 7] rfl rfl rfl (by decide) rfl rfl rfl (fun H locs hP hD hS => ?_)
            clear hcall
            refine lv_iconst (v := (1 : Int32)) hx hb dX11_sheet_40 (by decide) ?_
            obtain ⟨rfl, rfl, rfl, rfl, rfl, rfl, rfl, rfl, rfl, rfl, rfl, rfl, rfl⟩ := ou13 hf
            rw [hQ]
            exact W.iret hx hb hr (fun t ht hW => ⟨⟨_, (), rfl, rfl, by rw [ht]; exact hP, va_K.moved hW.alike hK, hD⟩, hS.F ht⟩) hS.2.2 dX11_sheet_41
          replace hf := ite_f cc hf
          clear cc
          rcases Decidable.em (x1 = (3 : Int32)) with cc | cc
          ·
            replace hf := ite_t cc hf
            refine W.eq (g2 := F0 m 35 ls [.ref a_p0_sheets_3]) (by rw [cc]; rfl) ?_
            clear cc
            refine lv_iload_n hx hb dX11_sheet_35 rfl (lv_at hl 2 rfl) ?_
            refine lv_iload_n hx hb dX11_sheet_36 rfl (lv_at hl 3 rfl) ?_
            have hq := bd3_s hf
            clear hf
            obtain ⟨z12, z13, w14, hcall, hf⟩ := hq
            refine gcV (ws' := [(a_p0, .inr (11, [.ref a_p0_rules, .ref a_p0_state, .ref a_p0_tape, .ref a_p0_reader, .ref a_p0_kitchen, .ref a_p0_luck, .ref a_p0_plans, .ref a_p0_coups, .ref a_p0_past, .ref a_p0_fairDays, .ref a_p0_images, .ref a_p0_imageHeld, .ref a_p0_sheets, .int i_p0_latestFault, .int i_p0_latestTear])), (a_p0_sheets, .inl (G 5, 4, .inr (.inr (.inr (.inr (va_up (va_up (va_up (va_up (fun _ => none) 0 (some a_p0_sheets_0)) 1 (some a_p0_sheets_1)) 2 (some a_p0_sheets_2)) 3 (some a_p0_sheets_3))))))), (a_p0_sheets_0, .inr (7, [.int i_p0_sheets_0_lane, .int i_p0_sheets_0_size, .ref a_p0_sheets_0_cells])), (a_p0_sheets_0_cells, .inl (G 1, 40, .inl v_p0_sheets_0_cells)), (a_p0_sheets_1, .inr (7, [.int i_p0_sheets_1_lane, .int i_p0_sheets_1_size, .ref a_p0_sheets_1_cells])), (a_p0_sheets_1_cells, .inl (G 1, 40, .inl v_p0_sheets_1_cells)), (a_p0_sheets_2, .inr (7, [.int i_p0_sheets_2_lane, .int i_p0_sheets_2_size, .ref a_p0_sheets_2_cells])), (a_p0_sheets_2_cells, .inl (G 1, 40, .inl v_p0_sheets_2_cells)), (a_p0_sheets_3, .inr (7, [.int z12, .int z13, .ref a_p0_sheets_3_cells])), (a_p0_sheets_3_cells, .inl (G 1, 40, .inl w14))]) (va_runV (As := [.int x2, .int x3]) (rest := []) ⟨hx, hb, hml, hown, hts⟩ (c_X7_renew (l := l) (D := D) (G := G) (sz := H.size) (a_p0 := a_p0_sheets_3) (a_p0_cells := a_p0_sheets_3_cells) (i_p0_lane := i_p0_sheets_3_lane) (i_p0_size := i_p0_sheets_3_size) (v_p0_cells := v_p0_sheets_3_cells) (x1 := x2) (x2 := x3) (o_i_p0_lane := z12) (o_i_p0_size := z13) (o_v_p0_cells := w14) (hf := hcall)) (cwV 2 hts gX11_sheet_X7_renew rfl rfl rfl (by decide +kernel) ⟨Nat.le_of_ble_eq_true rfl, Nat.le_of_ble_eq_true rfl⟩) (preG_V (ci := 7) (hP.sub [8, 9] rfl) (hD.sub [8, 9] rfl rfl) hK rfl rfl) rfl rfl hl.1 rfl (lv_room (Nat.le_of_ble_eq_true rfl)) dX11_sheet_37 ⟨Nat.le_of_ble_eq_true rfl, Nat.le_of_ble_eq_true rfl⟩) hP hD hS hA [8, 9] [0, 1, 2, 3, 4, 5, 6, 7] [0, 1, 2, 3, 4, 5, 6, 7, 8, 9] rfl rfl rfl (by decide) rfl rfl rfl (fun H locs hP hD hS => ?_)
            clear hcall
            refine lv_iconst (v := (1 : Int32)) hx hb dX11_sheet_40 (by decide) ?_
            obtain ⟨rfl, rfl, rfl, rfl, rfl, rfl, rfl, rfl, rfl, rfl, rfl, rfl, rfl⟩ := ou13 hf
            rw [hQ]
            exact W.iret hx hb hr (fun t ht hW => ⟨⟨_, (), rfl, rfl, by rw [ht]; exact hP, va_K.moved hW.alike hK, hD⟩, hS.F ht⟩) hS.2.2 dX11_sheet_41
          replace hf := ite_f cc hf
          clear cc
          cases hf
        ·
          replace hf := ite_f cc hf
          clear cc
          refine lv_bipush (v := (-14 : Int32)) hx hb dX11_sheet_26 (by decide) ?_
          obtain ⟨rfl, rfl, rfl, rfl, rfl, rfl, rfl, rfl, rfl, rfl, rfl, rfl, rfl⟩ := ou13 hf
          rw [hQ]
          exact W.iret hx hb hr (fun t ht hW => ⟨⟨_, (), rfl, rfl, by rw [ht]; exact hP, va_K.moved hW.alike hK, hD⟩, hS.F ht⟩) hS.2.2 dX11_sheet_28
      ·
        replace hf := ite_f cc hf
        clear cc
        refine lv_iconst (v := (-1 : Int32)) hx hb dX11_sheet_20 (by decide) ?_
        obtain ⟨rfl, rfl, rfl, rfl, rfl, rfl, rfl, rfl, rfl, rfl, rfl, rfl, rfl⟩ := ou13 hf
        rw [hQ]
        exact W.iret hx hb hr (fun t ht hW => ⟨⟨_, (), rfl, rfl, by rw [ht]; exact hP, va_K.moved hW.alike hK, hD⟩, hS.F ht⟩) hS.2.2 dX11_sheet_21

noncomputable def f_X11_lay (i_p0_sheets_0_lane : Int32) (i_p0_sheets_0_size : Int32) (i_p0_sheets_1_lane : Int32) (i_p0_sheets_1_size : Int32) (i_p0_sheets_2_lane : Int32) (i_p0_sheets_2_size : Int32) (i_p0_sheets_3_lane : Int32) (i_p0_sheets_3_size : Int32) (x1 : Int32) (x2 : Int32) : Option (Int32) := (bd1 (f_X11_isSheet x1) (fun (z1 : Int32) => (if z1 = 0 then (some (-1 : Int32)) else (ck (ixB x1 4) (if x1 = (0 : Int32) then (bd1 (f_X7_faultAt i_p0_sheets_0_lane i_p0_sheets_0_size i_p0_sheets_0_lane x2) (fun (z2 : Int32) => (bnd z2 (fun (z3 : Int32) => (if z3 = 0 then none else (some ((-10 : Int32) - z3))))))) else (if x1 = (1 : Int32) then (bd1 (f_X7_faultAt i_p0_sheets_1_lane i_p0_sheets_1_size i_p0_sheets_1_lane x2) (fun (z4 : Int32) => (bnd z4 (fun (z5 : Int32) => (if z5 = 0 then none else (some ((-10 : Int32) - z5))))))) else (if x1 = (2 : Int32) then (bd1 (f_X7_faultAt i_p0_sheets_2_lane i_p0_sheets_2_size i_p0_sheets_2_lane x2) (fun (z6 : Int32) => (bnd z6 (fun (z7 : Int32) => (if z7 = 0 then none else (some ((-10 : Int32) - z7))))))) else (if x1 = (3 : Int32) then (bd1 (f_X7_faultAt i_p0_sheets_3_lane i_p0_sheets_3_size i_p0_sheets_3_lane x2) (fun (z8 : Int32) => (bnd z8 (fun (z9 : Int32) => (if z9 = 0 then none else (some ((-10 : Int32) - z9))))))) else none))))))))
abbrev rm_X11_lay : Room := { frames := 2, cells := 0, slots := 0, locals := 42 }
theorem inX11_lay_X11 : ∀ w ∈ wsX110, w ∈ wsX11_lay := by decide +kernel
theorem mwX11_lay_1 : Cond.fieldLink RX11 95 "LadleKings" "sheets" "[LLadleKings$Sheet;" ∈ wsX11_lay := by decide +kernel
theorem inX11_lay_X7 : ∀ w ∈ wsX70, w ∈ wsX11_lay := by decide +kernel
theorem mwX11_lay_3 : Cond.fieldLink RX11 284 "LadleKings$Sheet" "lane" "I" ∈ wsX11_lay := by decide +kernel
set_option maxHeartbeats 8000000 in
set_option maxRecDepth 100000 in
theorem c_X11_lay (l : Launch) (D : va_G) (G : Nat → ClassId) (sz : Nat) (a_p0 : Nat) (a_p0_rules : Nat) (a_p0_state : Nat) (a_p0_tape : Nat) (a_p0_reader : Nat) (a_p0_kitchen : Nat) (a_p0_luck : Nat) (a_p0_plans : Nat) (a_p0_coups : Nat) (a_p0_past : Nat) (a_p0_fairDays : Nat) (a_p0_images : Nat) (a_p0_imageHeld : Nat) (a_p0_sheets : Nat) (a_p0_sheets_0 : Nat) (a_p0_sheets_1 : Nat) (a_p0_sheets_2 : Nat) (a_p0_sheets_3 : Nat) (a_p0_sheets_0_cells : Nat) (a_p0_sheets_1_cells : Nat) (a_p0_sheets_2_cells : Nat) (a_p0_sheets_3_cells : Nat) (i_p0_latestFault : Int32) (i_p0_latestTear : Int32) (i_p0_sheets_0_lane : Int32) (i_p0_sheets_0_size : Int32) (i_p0_sheets_1_lane : Int32) (i_p0_sheets_1_size : Int32) (i_p0_sheets_2_lane : Int32) (i_p0_sheets_2_size : Int32) (i_p0_sheets_3_lane : Int32) (i_p0_sheets_3_size : Int32) (x1 : Int32) (x2 : Int32) (x3 : Int32) (r : Int32) (hf : f_X11_lay i_p0_sheets_0_lane i_p0_sheets_0_size i_p0_sheets_1_lane i_p0_sheets_1_size i_p0_sheets_2_lane i_p0_sheets_2_size i_p0_sheets_3_lane i_p0_sheets_3_size x1 x2 = some r) : Met l yX11_lay wsX11_lay rm_X11_lay (pcG D G [.ref a_p0, .int x1, .int x2, .int x3] sz [(a_p0, .inr (11, [.ref a_p0_rules, .ref a_p0_state, .ref a_p0_tape, .ref a_p0_reader, .ref a_p0_kitchen, .ref a_p0_luck, .ref a_p0_plans, .ref a_p0_coups, .ref a_p0_past, .ref a_p0_fairDays, .ref a_p0_images, .ref a_p0_imageHeld, .ref a_p0_sheets, .int i_p0_latestFault, .int i_p0_latestTear])), (a_p0_sheets, .inl (G 5, 4, .inr (.inr (.inr (.inr (va_up (va_up (va_up (va_up (fun _ => none) 0 (some a_p0_sheets_0)) 1 (some a_p0_sheets_1)) 2 (some a_p0_sheets_2)) 3 (some a_p0_sheets_3))))))), (a_p0_sheets_0, .inr (7, [.int i_p0_sheets_0_lane, .int i_p0_sheets_0_size, .ref a_p0_sheets_0_cells])), (a_p0_sheets_1, .inr (7, [.int i_p0_sheets_1_lane, .int i_p0_sheets_1_size, .ref a_p0_sheets_1_cells])), (a_p0_sheets_2, .inr (7, [.int i_p0_sheets_2_lane, .int i_p0_sheets_2_size, .ref a_p0_sheets_2_cells])), (a_p0_sheets_3, .inr (7, [.int i_p0_sheets_3_lane, .int i_p0_sheets_3_size, .ref a_p0_sheets_3_cells]))]) (qcI D G r [(a_p0, .inr (11, [.ref a_p0_rules, .ref a_p0_state, .ref a_p0_tape, .ref a_p0_reader, .ref a_p0_kitchen, .ref a_p0_luck, .ref a_p0_plans, .ref a_p0_coups, .ref a_p0_past, .ref a_p0_fairDays, .ref a_p0_images, .ref a_p0_imageHeld, .ref a_p0_sheets, .int i_p0_latestFault, .int i_p0_latestTear])), (a_p0_sheets, .inl (G 5, 4, .inr (.inr (.inr (.inr (va_up (va_up (va_up (va_up (fun _ => none) 0 (some a_p0_sheets_0)) 1 (some a_p0_sheets_1)) 2 (some a_p0_sheets_2)) 3 (some a_p0_sheets_3))))))), (a_p0_sheets_0, .inr (7, [.int i_p0_sheets_0_lane, .int i_p0_sheets_0_size, .ref a_p0_sheets_0_cells])), (a_p0_sheets_1, .inr (7, [.int i_p0_sheets_1_lane, .int i_p0_sheets_1_size, .ref a_p0_sheets_1_cells])), (a_p0_sheets_2, .inr (7, [.int i_p0_sheets_2_lane, .int i_p0_sheets_2_size, .ref a_p0_sheets_2_cells])), (a_p0_sheets_3, .inr (7, [.int i_p0_sheets_3_lane, .int i_p0_sheets_3_size, .ref a_p0_sheets_3_cells]))] (va_A [(a_p0, .inr (11, [.ref a_p0_rules, .ref a_p0_state, .ref a_p0_tape, .ref a_p0_reader, .ref a_p0_kitchen, .ref a_p0_luck, .ref a_p0_plans, .ref a_p0_coups, .ref a_p0_past, .ref a_p0_fairDays, .ref a_p0_images, .ref a_p0_imageHeld, .ref a_p0_sheets, .int i_p0_latestFault, .int i_p0_latestTear])), (a_p0_sheets, .inl (G 5, 4, .inr (.inr (.inr (.inr (va_up (va_up (va_up (va_up (fun _ => none) 0 (some a_p0_sheets_0)) 1 (some a_p0_sheets_1)) 2 (some a_p0_sheets_2)) 3 (some a_p0_sheets_3))))))), (a_p0_sheets_0, .inr (7, [.int i_p0_sheets_0_lane, .int i_p0_sheets_0_size, .ref a_p0_sheets_0_cells])), (a_p0_sheets_1, .inr (7, [.int i_p0_sheets_1_lane, .int i_p0_sheets_1_size, .ref a_p0_sheets_1_cells])), (a_p0_sheets_2, .inr (7, [.int i_p0_sheets_2_lane, .int i_p0_sheets_2_size, .ref a_p0_sheets_2_cells])), (a_p0_sheets_3, .inr (7, [.int i_p0_sheets_3_lane, .int i_p0_sheets_3_size, .ref a_p0_sheets_3_cells]))] sz)) 0 0 (va_A [(a_p0, .inr (11, [.ref a_p0_rules, .ref a_p0_state, .ref a_p0_tape, .ref a_p0_reader, .ref a_p0_kitchen, .ref a_p0_luck, .ref a_p0_plans, .ref a_p0_coups, .ref a_p0_past, .ref a_p0_fairDays, .ref a_p0_images, .ref a_p0_imageHeld, .ref a_p0_sheets, .int i_p0_latestFault, .int i_p0_latestTear])), (a_p0_sheets, .inl (G 5, 4, .inr (.inr (.inr (.inr (va_up (va_up (va_up (va_up (fun _ => none) 0 (some a_p0_sheets_0)) 1 (some a_p0_sheets_1)) 2 (some a_p0_sheets_2)) 3 (some a_p0_sheets_3))))))), (a_p0_sheets_0, .inr (7, [.int i_p0_sheets_0_lane, .int i_p0_sheets_0_size, .ref a_p0_sheets_0_cells])), (a_p0_sheets_1, .inr (7, [.int i_p0_sheets_1_lane, .int i_p0_sheets_1_size, .ref a_p0_sheets_1_cells])), (a_p0_sheets_2, .inr (7, [.int i_p0_sheets_2_lane, .int i_p0_sheets_2_size, .ref a_p0_sheets_2_cells])), (a_p0_sheets_3, .inr (7, [.int i_p0_sheets_3_lane, .int i_p0_sheets_3_size, .ref a_p0_sheets_3_cells]))] sz) := by
  refine Met.ofW (cc := cX11_lay) (maxL := 6) (ret := (some .int)) (by decide) rfl ?_
  intro p e s m args below meth c s₁ B hml hv
  obtain ⟨rfl, hsz, hP, hK, hD0⟩ := hv
  have hx := B.exec
  have hb := B.bytes
  have hr := B.returns
  have hts := atoms_spec (ws := wsX11_lay) B.pre
  have hown : s.vm.findClass RX11 = some m.cls := findClass_of_methodNamed B.named
  have hlocks := B.notSynchronized
  subst hsz
  have hD := hD0.self (sz := s.heap.size)
  generalize hAe : va_A [(a_p0, .inr (11, [.ref a_p0_rules, .ref a_p0_state, .ref a_p0_tape, .ref a_p0_reader, .ref a_p0_kitchen, .ref a_p0_luck, .ref a_p0_plans, .ref a_p0_coups, .ref a_p0_past, .ref a_p0_fairDays, .ref a_p0_images, .ref a_p0_imageHeld, .ref a_p0_sheets, .int i_p0_latestFault, .int i_p0_latestTear])), (a_p0_sheets, .inl (G 5, 4, .inr (.inr (.inr (.inr (va_up (va_up (va_up (va_up (fun _ => none) 0 (some a_p0_sheets_0)) 1 (some a_p0_sheets_1)) 2 (some a_p0_sheets_2)) 3 (some a_p0_sheets_3))))))), (a_p0_sheets_0, .inr (7, [.int i_p0_sheets_0_lane, .int i_p0_sheets_0_size, .ref a_p0_sheets_0_cells])), (a_p0_sheets_1, .inr (7, [.int i_p0_sheets_1_lane, .int i_p0_sheets_1_size, .ref a_p0_sheets_1_cells])), (a_p0_sheets_2, .inr (7, [.int i_p0_sheets_2_lane, .int i_p0_sheets_2_size, .ref a_p0_sheets_2_cells])), (a_p0_sheets_3, .inr (7, [.int i_p0_sheets_3_lane, .int i_p0_sheets_3_size, .ref a_p0_sheets_3_cells]))] s.heap.size = A at hD ⊢
  have hA : ∀ q : Nat, s.heap.size ≤ q → A q := fun q h => by rw [← hAe]; exact Or.inr h
  clear hAe hD0
  have hS : va_S A s.heap s.heap [] := va_S.rf
  have hl := lv_entry ([.ref a_p0, .int x1, .int x2, .int x3]) (n := 6) (Nat.le_of_ble_eq_true rfl)
  rw [lg_entry_eq]
  generalize (lg_sl ([.ref a_p0, .int x1, .int x2, .int x3]) ++ List.replicate (6 - (lg_sl ([.ref a_p0, .int x1, .int x2, .int x3])).length) Slot.unset).toArray = ls at hl ⊢
  have hl : lv_has ls 6 [(0, .ref a_p0), (1, .int x1), (2, .int x2), (3, .int x3)] := hl
  refine W_nameQ (fun Q hQ => ?_)
  obtain ⟨H, hH⟩ : ∃ H, H = s.heap := ⟨_, rfl⟩
  replace hS : va_S A s.heap H [] := by rw [hH]; exact hS
  replace hP : va_P D vwCl [(a_p0, .inr (11, [.ref a_p0_rules, .ref a_p0_state, .ref a_p0_tape, .ref a_p0_reader, .ref a_p0_kitchen, .ref a_p0_luck, .ref a_p0_plans, .ref a_p0_coups, .ref a_p0_past, .ref a_p0_fairDays, .ref a_p0_images, .ref a_p0_imageHeld, .ref a_p0_sheets, .int i_p0_latestFault, .int i_p0_latestTear])), (a_p0_sheets, .inl (G 5, 4, .inr (.inr (.inr (.inr (va_up (va_up (va_up (va_up (fun _ => none) 0 (some a_p0_sheets_0)) 1 (some a_p0_sheets_1)) 2 (some a_p0_sheets_2)) 3 (some a_p0_sheets_3))))))), (a_p0_sheets_0, .inr (7, [.int i_p0_sheets_0_lane, .int i_p0_sheets_0_size, .ref a_p0_sheets_0_cells])), (a_p0_sheets_1, .inr (7, [.int i_p0_sheets_1_lane, .int i_p0_sheets_1_size, .ref a_p0_sheets_1_cells])), (a_p0_sheets_2, .inr (7, [.int i_p0_sheets_2_lane, .int i_p0_sheets_2_size, .ref a_p0_sheets_2_cells])), (a_p0_sheets_3, .inr (7, [.int i_p0_sheets_3_lane, .int i_p0_sheets_3_size, .ref a_p0_sheets_3_cells]))] H := by rw [hH]; exact hP
  rw [← hH]
  clear hH
  unfold f_X11_lay at hf
  refine lv_iload_n hx hb dX11_lay_0 rfl (lv_at hl 1 rfl) ?_
  have hq := bd1_s hf
  clear hf
  obtain ⟨z1, hcall, hf⟩ := hq
  refine gcI (ws' := [(a_p0, .inr (11, [.ref a_p0_rules, .ref a_p0_state, .ref a_p0_tape, .ref a_p0_reader, .ref a_p0_kitchen, .ref a_p0_luck, .ref a_p0_plans, .ref a_p0_coups, .ref a_p0_past, .ref a_p0_fairDays, .ref a_p0_images, .ref a_p0_imageHeld, .ref a_p0_sheets, .int i_p0_latestFault, .int i_p0_latestTear])), (a_p0_sheets, .inl (G 5, 4, .inr (.inr (.inr (.inr (va_up (va_up (va_up (va_up (fun _ => none) 0 (some a_p0_sheets_0)) 1 (some a_p0_sheets_1)) 2 (some a_p0_sheets_2)) 3 (some a_p0_sheets_3))))))), (a_p0_sheets_0, .inr (7, [.int i_p0_sheets_0_lane, .int i_p0_sheets_0_size, .ref a_p0_sheets_0_cells])), (a_p0_sheets_1, .inr (7, [.int i_p0_sheets_1_lane, .int i_p0_sheets_1_size, .ref a_p0_sheets_1_cells])), (a_p0_sheets_2, .inr (7, [.int i_p0_sheets_2_lane, .int i_p0_sheets_2_size, .ref a_p0_sheets_2_cells])), (a_p0_sheets_3, .inr (7, [.int i_p0_sheets_3_lane, .int i_p0_sheets_3_size, .ref a_p0_sheets_3_cells]))]) (va_runS (As := [.int x1]) (rest := []) ⟨hx, hb, hml, hown, hts⟩ (c_X11_isSheet (l := l) (D := D) (G := G) (sz := H.size) (x0 := x1) (r := z1) (hf := hcall)) (va_cwS 1 hts gX11_lay_X11_isSheet rfl rfl rfl (by decide +kernel) ⟨Nat.le_of_ble_eq_true rfl, Nat.le_of_ble_eq_true rfl⟩) (preG_S (hP.sub [] rfl) (hD.sub [] rfl rfl) hK) rfl rfl hl.1 rfl (lv_room (Nat.le_of_ble_eq_true rfl)) dX11_lay_1 ⟨Nat.le_of_ble_eq_true rfl, Nat.le_of_ble_eq_true rfl⟩) hP hD hS hA [] [0, 1, 2, 3, 4, 5] [0, 1, 2, 3, 4, 5] rfl rfl rfl (by decide) rfl rfl rfl (fun H locs hP hD hS => ?_)
  clear hcall
  refine lv_if_ne (tgt := 9) hx hb dX11_lay_4 (by decide) (fun cc => ?_) (fun cc => ?_)
  ·
    replace hf := ite_f cc hf
    clear cc
    refine lv_aload_n hx hb dX11_lay_9 rfl (lv_at hl 0 rfl) ?_
    refine va_get (D := D) (ci := 11) (v := .ref a_p0_sheets) (C := RX11) (T := TX11) (N := 15) hx hb hts inX11_lay_X11 hown hK hP 0 rfl rfl 12 (by decide) (hts _ mwX11_lay_1) (fun _ h9 => h9) rfl dX11_lay_10 ?_
    refine lv_iload_n hx hb dX11_lay_13 rfl (lv_at hl 1 rfl) ?_
    have hc := ck_c hf
    replace hf := ck_r hf
    refine va_aldq hx hb hK hP 1 5 rfl rfl (ixB_in hc) dX11_lay_14 ?_
    clear hc
    rcases Decidable.em (x1 = (0 : Int32)) with cc | cc
    ·
      replace hf := ite_t cc hf
      refine W.eq (g2 := F0 m 15 ls [.ref a_p0_sheets_0]) (by rw [cc]; rfl) ?_
      clear cc
      refine lv_astore (lv' := [(4, .ref a_p0_sheets_0), (0, .ref a_p0), (1, .int x1), (2, .int x2), (3, .int x3)]) hx hb dX11_lay_15 hl (by decide) rfl (fun ls hl => ?_)
      refine lv_aload hx hb dX11_lay_17 (lv_at hl 0 rfl) ?_
      refine lv_aload hx hb dX11_lay_19 (lv_at hl 0 rfl) ?_
      refine va_get (D := D) (ci := 7) (v := .int i_p0_sheets_0_lane) (C := RX7) (T := TX7) (N := 3) hx hb hts inX11_lay_X7 hown hK hP 2 rfl rfl 0 (by decide) (hts _ mwX11_lay_3) (fun _ h9 => h9) rfl dX11_lay_21 ?_
      refine lv_iload_n hx hb dX11_lay_24 rfl (lv_at hl 3 rfl) ?_
      have hq := bd1_s hf
      clear hf
      obtain ⟨z2, hcall, hf⟩ := hq
      refine gcI (ws' := [(a_p0, .inr (11, [.ref a_p0_rules, .ref a_p0_state, .ref a_p0_tape, .ref a_p0_reader, .ref a_p0_kitchen, .ref a_p0_luck, .ref a_p0_plans, .ref a_p0_coups, .ref a_p0_past, .ref a_p0_fairDays, .ref a_p0_images, .ref a_p0_imageHeld, .ref a_p0_sheets, .int i_p0_latestFault, .int i_p0_latestTear])), (a_p0_sheets, .inl (G 5, 4, .inr (.inr (.inr (.inr (va_up (va_up (va_up (va_up (fun _ => none) 0 (some a_p0_sheets_0)) 1 (some a_p0_sheets_1)) 2 (some a_p0_sheets_2)) 3 (some a_p0_sheets_3))))))), (a_p0_sheets_0, .inr (7, [.int i_p0_sheets_0_lane, .int i_p0_sheets_0_size, .ref a_p0_sheets_0_cells])), (a_p0_sheets_1, .inr (7, [.int i_p0_sheets_1_lane, .int i_p0_sheets_1_size, .ref a_p0_sheets_1_cells])), (a_p0_sheets_2, .inr (7, [.int i_p0_sheets_2_lane, .int i_p0_sheets_2_size, .ref a_p0_sheets_2_cells])), (a_p0_sheets_3, .inr (7, [.int i_p0_sheets_3_lane, .int i_p0_sheets_3_size, .ref a_p0_sheets_3_cells]))]) (va_runV (As := [.int i_p0_sheets_0_lane, .int x2]) (rest := []) ⟨hx, hb, hml, hown, hts⟩ (c_X7_faultAt (l := l) (D := D) (G := G) (sz := H.size) (a_p0 := a_p0_sheets_0) (a_p0_cells := a_p0_sheets_0_cells) (i_p0_lane := i_p0_sheets_0_lane) (i_p0_size := i_p0_sheets_0_size) (x1 := i_p0_sheets_0_lane) (x2 := x2) (r := z2) (hf := hcall)) (cwV 2 hts gX11_lay_X7_faultAt rfl rfl rfl (by decide +kernel) ⟨Nat.le_of_ble_eq_true rfl, Nat.le_of_ble_eq_true rfl⟩) (preG_V (ci := 7) (hP.sub [2] rfl) (hD.sub [2] rfl rfl) hK rfl rfl) rfl rfl hl.1 rfl (lv_room (Nat.le_of_ble_eq_true rfl)) dX11_lay_25 ⟨Nat.le_of_ble_eq_true rfl, Nat.le_of_ble_eq_true rfl⟩) hP hD hS hA [2] [0, 1, 3, 4, 5] [0, 1, 5, 2, 3, 4] rfl rfl rfl (by decide) rfl rfl rfl (fun H locs hP hD hS => ?_)
      clear hcall
      refine lv_topi (fun z3 ez => ?_)
      replace hf := bnd_s hf ez
      clear ez
      refine lv_istore (lv' := [(5, .int z3), (4, .ref a_p0_sheets_0), (0, .ref a_p0), (1, .int x1), (2, .int x2), (3, .int x3)]) hx hb dX11_lay_28 hl (by decide) rfl (fun ls hl => ?_)
      refine lv_iload hx hb dX11_lay_30 (lv_at hl 0 rfl) ?_
      refine lv_if_eq (tgt := 41) hx hb dX11_lay_32 (by decide) (fun cc => ?_) (fun cc => ?_)
      ·
        replace hf := ite_t cc hf
        clear cc
        refine lv_aload hx hb dX11_lay_41 (lv_at hl 1 rfl) ?_
        refine lv_iload_n hx hb dX11_lay_43 rfl (lv_at hl 4 rfl) ?_
        refine lv_iload_n hx hb dX11_lay_44 rfl (lv_at hl 5 rfl) ?_
        cases hf
      ·
        replace hf := ite_f cc hf
        clear cc
        refine lv_bipush (v := (-10 : Int32)) hx hb dX11_lay_35 (by decide) ?_
        refine lv_iload hx hb dX11_lay_37 (lv_at hl 0 rfl) ?_
        refine lv_isub hx hb dX11_lay_39 ?_
        obtain rfl := ou1 hf
        rw [hQ]
        exact W.iret hx hb hr (fun t ht hW => ⟨⟨_, (), rfl, rfl, by rw [ht]; exact hP, va_K.moved hW.alike hK, hD⟩, hS.F ht⟩) hS.2.2 dX11_lay_40
    replace hf := ite_f cc hf
    clear cc
    rcases Decidable.em (x1 = (1 : Int32)) with cc | cc
    ·
      replace hf := ite_t cc hf
      refine W.eq (g2 := F0 m 15 ls [.ref a_p0_sheets_1]) (by rw [cc]; rfl) ?_
      clear cc
      refine lv_astore (lv' := [(4, .ref a_p0_sheets_1), (0, .ref a_p0), (1, .int x1), (2, .int x2), (3, .int x3)]) hx hb dX11_lay_15 hl (by decide) rfl (fun ls hl => ?_)
      refine lv_aload hx hb dX11_lay_17 (lv_at hl 0 rfl) ?_
      refine lv_aload hx hb dX11_lay_19 (lv_at hl 0 rfl) ?_
      refine va_get (D := D) (ci := 7) (v := .int i_p0_sheets_1_lane) (C := RX7) (T := TX7) (N := 3) hx hb hts inX11_lay_X7 hown hK hP 3 rfl rfl 0 (by decide) (hts _ mwX11_lay_3) (fun _ h9 => h9) rfl dX11_lay_21 ?_
      refine lv_iload_n hx hb dX11_lay_24 rfl (lv_at hl 3 rfl) ?_
      have hq := bd1_s hf
      clear hf
      obtain ⟨z4, hcall, hf⟩ := hq
      refine gcI (ws' := [(a_p0, .inr (11, [.ref a_p0_rules, .ref a_p0_state, .ref a_p0_tape, .ref a_p0_reader, .ref a_p0_kitchen, .ref a_p0_luck, .ref a_p0_plans, .ref a_p0_coups, .ref a_p0_past, .ref a_p0_fairDays, .ref a_p0_images, .ref a_p0_imageHeld, .ref a_p0_sheets, .int i_p0_latestFault, .int i_p0_latestTear])), (a_p0_sheets, .inl (G 5, 4, .inr (.inr (.inr (.inr (va_up (va_up (va_up (va_up (fun _ => none) 0 (some a_p0_sheets_0)) 1 (some a_p0_sheets_1)) 2 (some a_p0_sheets_2)) 3 (some a_p0_sheets_3))))))), (a_p0_sheets_0, .inr (7, [.int i_p0_sheets_0_lane, .int i_p0_sheets_0_size, .ref a_p0_sheets_0_cells])), (a_p0_sheets_1, .inr (7, [.int i_p0_sheets_1_lane, .int i_p0_sheets_1_size, .ref a_p0_sheets_1_cells])), (a_p0_sheets_2, .inr (7, [.int i_p0_sheets_2_lane, .int i_p0_sheets_2_size, .ref a_p0_sheets_2_cells])), (a_p0_sheets_3, .inr (7, [.int i_p0_sheets_3_lane, .int i_p0_sheets_3_size, .ref a_p0_sheets_3_cells]))]) (va_runV (As := [.int i_p0_sheets_1_lane, .int x2]) (rest := []) ⟨hx, hb, hml, hown, hts⟩ (c_X7_faultAt (l := l) (D := D) (G := G) (sz := H.size) (a_p0 := a_p0_sheets_1) (a_p0_cells := a_p0_sheets_1_cells) (i_p0_lane := i_p0_sheets_1_lane) (i_p0_size := i_p0_sheets_1_size) (x1 := i_p0_sheets_1_lane) (x2 := x2) (r := z4) (hf := hcall)) (cwV 2 hts gX11_lay_X7_faultAt rfl rfl rfl (by decide +kernel) ⟨Nat.le_of_ble_eq_true rfl, Nat.le_of_ble_eq_true rfl⟩) (preG_V (ci := 7) (hP.sub [3] rfl) (hD.sub [3] rfl rfl) hK rfl rfl) rfl rfl hl.1 rfl (lv_room (Nat.le_of_ble_eq_true rfl)) dX11_lay_25 ⟨Nat.le_of_ble_eq_true rfl, Nat.le_of_ble_eq_true rfl⟩) hP hD hS hA [3] [0, 1, 2, 4, 5] [0, 1, 2, 5, 3, 4] rfl rfl rfl (by decide) rfl rfl rfl (fun H locs hP hD hS => ?_)
      clear hcall
      refine lv_topi (fun z5 ez => ?_)
      replace hf := bnd_s hf ez
      clear ez
      refine lv_istore (lv' := [(5, .int z5), (4, .ref a_p0_sheets_1), (0, .ref a_p0), (1, .int x1), (2, .int x2), (3, .int x3)]) hx hb dX11_lay_28 hl (by decide) rfl (fun ls hl => ?_)
      refine lv_iload hx hb dX11_lay_30 (lv_at hl 0 rfl) ?_
      refine lv_if_eq (tgt := 41) hx hb dX11_lay_32 (by decide) (fun cc => ?_) (fun cc => ?_)
      ·
        replace hf := ite_t cc hf
        clear cc
        refine lv_aload hx hb dX11_lay_41 (lv_at hl 1 rfl) ?_
        refine lv_iload_n hx hb dX11_lay_43 rfl (lv_at hl 4 rfl) ?_
        refine lv_iload_n hx hb dX11_lay_44 rfl (lv_at hl 5 rfl) ?_
        cases hf
      ·
        replace hf := ite_f cc hf
        clear cc
        refine lv_bipush (v := (-10 : Int32)) hx hb dX11_lay_35 (by decide) ?_
        refine lv_iload hx hb dX11_lay_37 (lv_at hl 0 rfl) ?_
        refine lv_isub hx hb dX11_lay_39 ?_
        obtain rfl := ou1 hf
        rw [hQ]
        exact W.iret hx hb hr (fun t ht hW => ⟨⟨_, (), rfl, rfl, by rw [ht]; exact hP, va_K.moved hW.alike hK, hD⟩, hS.F ht⟩) hS.2.2 dX11_lay_40
    replace hf := ite_f cc hf
    clear cc
    rcases Decidable.em (x1 = (2 : Int32)) with cc | cc
    ·
      replace hf := ite_t cc hf
      refine W.eq (g2 := F0 m 15 ls [.ref a_p0_sheets_2]) (by rw [cc]; rfl) ?_
      clear cc
      refine lv_astore (lv' := [(4, .ref a_p0_sheets_2), (0, .ref a_p0), (1, .int x1), (2, .int x2), (3, .int x3)]) hx hb dX11_lay_15 hl (by decide) rfl (fun ls hl => ?_)
      refine lv_aload hx hb dX11_lay_17 (lv_at hl 0 rfl) ?_
      refine lv_aload hx hb dX11_lay_19 (lv_at hl 0 rfl) ?_
      refine va_get (D := D) (ci := 7) (v := .int i_p0_sheets_2_lane) (C := RX7) (T := TX7) (N := 3) hx hb hts inX11_lay_X7 hown hK hP 4 rfl rfl 0 (by decide) (hts _ mwX11_lay_3) (fun _ h9 => h9) rfl dX11_lay_21 ?_
      refine lv_iload_n hx hb dX11_lay_24 rfl (lv_at hl 3 rfl) ?_
      have hq := bd1_s hf
      clear hf
      obtain ⟨z6, hcall, hf⟩ := hq
      refine gcI (ws' := [(a_p0, .inr (11, [.ref a_p0_rules, .ref a_p0_state, .ref a_p0_tape, .ref a_p0_reader, .ref a_p0_kitchen, .ref a_p0_luck, .ref a_p0_plans, .ref a_p0_coups, .ref a_p0_past, .ref a_p0_fairDays, .ref a_p0_images, .ref a_p0_imageHeld, .ref a_p0_sheets, .int i_p0_latestFault, .int i_p0_latestTear])), (a_p0_sheets, .inl (G 5, 4, .inr (.inr (.inr (.inr (va_up (va_up (va_up (va_up (fun _ => none) 0 (some a_p0_sheets_0)) 1 (some a_p0_sheets_1)) 2 (some a_p0_sheets_2)) 3 (some a_p0_sheets_3))))))), (a_p0_sheets_0, .inr (7, [.int i_p0_sheets_0_lane, .int i_p0_sheets_0_size, .ref a_p0_sheets_0_cells])), (a_p0_sheets_1, .inr (7, [.int i_p0_sheets_1_lane, .int i_p0_sheets_1_size, .ref a_p0_sheets_1_cells])), (a_p0_sheets_2, .inr (7, [.int i_p0_sheets_2_lane, .int i_p0_sheets_2_size, .ref a_p0_sheets_2_cells])), (a_p0_sheets_3, .inr (7, [.int i_p0_sheets_3_lane, .int i_p0_sheets_3_size, .ref a_p0_sheets_3_cells]))]) (va_runV (As := [.int i_p0_sheets_2_lane, .int x2]) (rest := []) ⟨hx, hb, hml, hown, hts⟩ (c_X7_faultAt (l := l) (D := D) (G := G) (sz := H.size) (a_p0 := a_p0_sheets_2) (a_p0_cells := a_p0_sheets_2_cells) (i_p0_lane := i_p0_sheets_2_lane) (i_p0_size := i_p0_sheets_2_size) (x1 := i_p0_sheets_2_lane) (x2 := x2) (r := z6) (hf := hcall)) (cwV 2 hts gX11_lay_X7_faultAt rfl rfl rfl (by decide +kernel) ⟨Nat.le_of_ble_eq_true rfl, Nat.le_of_ble_eq_true rfl⟩) (preG_V (ci := 7) (hP.sub [4] rfl) (hD.sub [4] rfl rfl) hK rfl rfl) rfl rfl hl.1 rfl (lv_room (Nat.le_of_ble_eq_true rfl)) dX11_lay_25 ⟨Nat.le_of_ble_eq_true rfl, Nat.le_of_ble_eq_true rfl⟩) hP hD hS hA [4] [0, 1, 2, 3, 5] [0, 1, 2, 3, 5, 4] rfl rfl rfl (by decide) rfl rfl rfl (fun H locs hP hD hS => ?_)
      clear hcall
      refine lv_topi (fun z7 ez => ?_)
      replace hf := bnd_s hf ez
      clear ez
      refine lv_istore (lv' := [(5, .int z7), (4, .ref a_p0_sheets_2), (0, .ref a_p0), (1, .int x1), (2, .int x2), (3, .int x3)]) hx hb dX11_lay_28 hl (by decide) rfl (fun ls hl => ?_)
      refine lv_iload hx hb dX11_lay_30 (lv_at hl 0 rfl) ?_
      refine lv_if_eq (tgt := 41) hx hb dX11_lay_32 (by decide) (fun cc => ?_) (fun cc => ?_)
      ·
        replace hf := ite_t cc hf
        clear cc
        refine lv_aload hx hb dX11_lay_41 (lv_at hl 1 rfl) ?_
        refine lv_iload_n hx hb dX11_lay_43 rfl (lv_at hl 4 rfl) ?_
        refine lv_iload_n hx hb dX11_lay_44 rfl (lv_at hl 5 rfl) ?_
        cases hf
      ·
        replace hf := ite_f cc hf
        clear cc
        refine lv_bipush (v := (-10 : Int32)) hx hb dX11_lay_35 (by decide) ?_
        refine lv_iload hx hb dX11_lay_37 (lv_at hl 0 rfl) ?_
        refine lv_isub hx hb dX11_lay_39 ?_
        obtain rfl := ou1 hf
        rw [hQ]
        exact W.iret hx hb hr (fun t ht hW => ⟨⟨_, (), rfl, rfl, by rw [ht]; exact hP, va_K.moved hW.alike hK, hD⟩, hS.F ht⟩) hS.2.2 dX11_lay_40
    replace hf := ite_f cc hf
    clear cc
    rcases Decidable.em (x1 = (3 : Int32)) with cc | cc
    ·
      replace hf := ite_t cc hf
      refine W.eq (g2 := F0 m 15 ls [.ref a_p0_sheets_3]) (by rw [cc]; rfl) ?_
      clear cc
      refine lv_astore (lv' := [(4, .ref a_p0_sheets_3), (0, .ref a_p0), (1, .int x1), (2, .int x2), (3, .int x3)]) hx hb dX11_lay_15 hl (by decide) rfl (fun ls hl => ?_)
      refine lv_aload hx hb dX11_lay_17 (lv_at hl 0 rfl) ?_
      refine lv_aload hx hb dX11_lay_19 (lv_at hl 0 rfl) ?_
      refine va_get (D := D) (ci := 7) (v := .int i_p0_sheets_3_lane) (C := RX7) (T := TX7) (N := 3) hx hb hts inX11_lay_X7 hown hK hP 5 rfl rfl 0 (by decide) (hts _ mwX11_lay_3) (fun _ h9 => h9) rfl dX11_lay_21 ?_
      refine lv_iload_n hx hb dX11_lay_24 rfl (lv_at hl 3 rfl) ?_
      have hq := bd1_s hf
      clear hf
      obtain ⟨z8, hcall, hf⟩ := hq
      refine gcI (ws' := [(a_p0, .inr (11, [.ref a_p0_rules, .ref a_p0_state, .ref a_p0_tape, .ref a_p0_reader, .ref a_p0_kitchen, .ref a_p0_luck, .ref a_p0_plans, .ref a_p0_coups, .ref a_p0_past, .ref a_p0_fairDays, .ref a_p0_images, .ref a_p0_imageHeld, .ref a_p0_sheets, .int i_p0_latestFault, .int i_p0_latestTear])), (a_p0_sheets, .inl (G 5, 4, .inr (.inr (.inr (.inr (va_up (va_up (va_up (va_up (fun _ => none) 0 (some a_p0_sheets_0)) 1 (some a_p0_sheets_1)) 2 (some a_p0_sheets_2)) 3 (some a_p0_sheets_3))))))), (a_p0_sheets_0, .inr (7, [.int i_p0_sheets_0_lane, .int i_p0_sheets_0_size, .ref a_p0_sheets_0_cells])), (a_p0_sheets_1, .inr (7, [.int i_p0_sheets_1_lane, .int i_p0_sheets_1_size, .ref a_p0_sheets_1_cells])), (a_p0_sheets_2, .inr (7, [.int i_p0_sheets_2_lane, .int i_p0_sheets_2_size, .ref a_p0_sheets_2_cells])), (a_p0_sheets_3, .inr (7, [.int i_p0_sheets_3_lane, .int i_p0_sheets_3_size, .ref a_p0_sheets_3_cells]))]) (va_runV (As := [.int i_p0_sheets_3_lane, .int x2]) (rest := []) ⟨hx, hb, hml, hown, hts⟩ (c_X7_faultAt (l := l) (D := D) (G := G) (sz := H.size) (a_p0 := a_p0_sheets_3) (a_p0_cells := a_p0_sheets_3_cells) (i_p0_lane := i_p0_sheets_3_lane) (i_p0_size := i_p0_sheets_3_size) (x1 := i_p0_sheets_3_lane) (x2 := x2) (r := z8) (hf := hcall)) (cwV 2 hts gX11_lay_X7_faultAt rfl rfl rfl (by decide +kernel) ⟨Nat.le_of_ble_eq_true rfl, Nat.le_of_ble_eq_true rfl⟩) (preG_V (ci := 7) (hP.sub [5] rfl) (hD.sub [5] rfl rfl) hK rfl rfl) rfl rfl hl.1 rfl (lv_room (Nat.le_of_ble_eq_true rfl)) dX11_lay_25 ⟨Nat.le_of_ble_eq_true rfl, Nat.le_of_ble_eq_true rfl⟩) hP hD hS hA [5] [0, 1, 2, 3, 4] [0, 1, 2, 3, 4, 5] rfl rfl rfl (by decide) rfl rfl rfl (fun H locs hP hD hS => ?_)
      clear hcall
      refine lv_topi (fun z9 ez => ?_)
      replace hf := bnd_s hf ez
      clear ez
      refine lv_istore (lv' := [(5, .int z9), (4, .ref a_p0_sheets_3), (0, .ref a_p0), (1, .int x1), (2, .int x2), (3, .int x3)]) hx hb dX11_lay_28 hl (by decide) rfl (fun ls hl => ?_)
      refine lv_iload hx hb dX11_lay_30 (lv_at hl 0 rfl) ?_
      refine lv_if_eq (tgt := 41) hx hb dX11_lay_32 (by decide) (fun cc => ?_) (fun cc => ?_)
      ·
        replace hf := ite_t cc hf
        clear cc
        refine lv_aload hx hb dX11_lay_41 (lv_at hl 1 rfl) ?_
        refine lv_iload_n hx hb dX11_lay_43 rfl (lv_at hl 4 rfl) ?_
        refine lv_iload_n hx hb dX11_lay_44 rfl (lv_at hl 5 rfl) ?_
        cases hf
      ·
        replace hf := ite_f cc hf
        clear cc
        refine lv_bipush (v := (-10 : Int32)) hx hb dX11_lay_35 (by decide) ?_
        refine lv_iload hx hb dX11_lay_37 (lv_at hl 0 rfl) ?_
        refine lv_isub hx hb dX11_lay_39 ?_
        obtain rfl := ou1 hf
        rw [hQ]
        exact W.iret hx hb hr (fun t ht hW => ⟨⟨_, (), rfl, rfl, by rw [ht]; exact hP, va_K.moved hW.alike hK, hD⟩, hS.F ht⟩) hS.2.2 dX11_lay_40
    replace hf := ite_f cc hf
    clear cc
    cases hf
  ·
    replace hf := ite_t cc hf
    clear cc
    refine lv_iconst (v := (-1 : Int32)) hx hb dX11_lay_7 (by decide) ?_
    obtain rfl := ou1 hf
    rw [hQ]
    exact W.iret hx hb hr (fun t ht hW => ⟨⟨_, (), rfl, rfl, by rw [ht]; exact hP, va_K.moved hW.alike hK, hD⟩, hS.F ht⟩) hS.2.2 dX11_lay_8

noncomputable def B_X11_read_114 (z7 : Int32) (J10 : Option (Int32 × Int32)) (x3 : Int32) (again114 : Int32 → Option (Int32 × Int32)) (z12 : Int32) : Option (Int32 × Int32) := (if z7 ≤ z12 then (J10) else (ck (ixB (x3 + z12) 40) none))
noncomputable def B_X11_read_45 (x4 : Int32) (J8 : Int32 → Int32 → Option (Int32 × Int32)) (i_p0_sheets_0_lane : Int32) (i_p0_sheets_0_size : Int32) (x2 : Int32) (x3 : Int32) (again45 : Int32 → Int32 → Int32 → Option (Int32 × Int32)) (z14 : Int32) (z15 : Int32) (z16 : Int32) : Option (Int32 × Int32) := (if x4 ≤ z14 then (J8 z16 z15) else (if z16 = 0 then (bd1 (f_X7_faultAt i_p0_sheets_0_lane i_p0_sheets_0_size x2 (x3 + z14)) (fun (z18 : Int32) => (bnd z18 (fun (z19 : Int32) => (if z19 = 0 then (ck (ixB (x3 + z14) 40) none) else (bnd (z14 + (1 : Int32)) (fun (z20 : Int32) => (again45 z20 z15 z19)))))))) else (J8 z16 z15)))
noncomputable def B_X11_read_114_2 (z25 : Int32) (J28 : Option (Int32 × Int32)) (x3 : Int32) (again114 : Int32 → Option (Int32 × Int32)) (z30 : Int32) : Option (Int32 × Int32) := (if z25 ≤ z30 then (J28) else (ck (ixB (x3 + z30) 40) none))
noncomputable def B_X11_read_45_2 (x4 : Int32) (J26 : Int32 → Int32 → Option (Int32 × Int32)) (i_p0_sheets_1_lane : Int32) (i_p0_sheets_1_size : Int32) (x2 : Int32) (x3 : Int32) (again45 : Int32 → Int32 → Int32 → Option (Int32 × Int32)) (z32 : Int32) (z33 : Int32) (z34 : Int32) : Option (Int32 × Int32) := (if x4 ≤ z32 then (J26 z34 z33) else (if z34 = 0 then (bd1 (f_X7_faultAt i_p0_sheets_1_lane i_p0_sheets_1_size x2 (x3 + z32)) (fun (z36 : Int32) => (bnd z36 (fun (z37 : Int32) => (if z37 = 0 then (ck (ixB (x3 + z32) 40) none) else (bnd (z32 + (1 : Int32)) (fun (z38 : Int32) => (again45 z38 z33 z37)))))))) else (J26 z34 z33)))
noncomputable def B_X11_read_114_3 (z43 : Int32) (J46 : Option (Int32 × Int32)) (x3 : Int32) (again114 : Int32 → Option (Int32 × Int32)) (z48 : Int32) : Option (Int32 × Int32) := (if z43 ≤ z48 then (J46) else (ck (ixB (x3 + z48) 40) none))
noncomputable def B_X11_read_45_3 (x4 : Int32) (J44 : Int32 → Int32 → Option (Int32 × Int32)) (i_p0_sheets_2_lane : Int32) (i_p0_sheets_2_size : Int32) (x2 : Int32) (x3 : Int32) (again45 : Int32 → Int32 → Int32 → Option (Int32 × Int32)) (z50 : Int32) (z51 : Int32) (z52 : Int32) : Option (Int32 × Int32) := (if x4 ≤ z50 then (J44 z52 z51) else (if z52 = 0 then (bd1 (f_X7_faultAt i_p0_sheets_2_lane i_p0_sheets_2_size x2 (x3 + z50)) (fun (z54 : Int32) => (bnd z54 (fun (z55 : Int32) => (if z55 = 0 then (ck (ixB (x3 + z50) 40) none) else (bnd (z50 + (1 : Int32)) (fun (z56 : Int32) => (again45 z56 z51 z55)))))))) else (J44 z52 z51)))
noncomputable def B_X11_read_114_4 (z61 : Int32) (J64 : Option (Int32 × Int32)) (x3 : Int32) (again114 : Int32 → Option (Int32 × Int32)) (z66 : Int32) : Option (Int32 × Int32) := (if z61 ≤ z66 then (J64) else (ck (ixB (x3 + z66) 40) none))
noncomputable def B_X11_read_45_4 (x4 : Int32) (J62 : Int32 → Int32 → Option (Int32 × Int32)) (i_p0_sheets_3_lane : Int32) (i_p0_sheets_3_size : Int32) (x2 : Int32) (x3 : Int32) (again45 : Int32 → Int32 → Int32 → Option (Int32 × Int32)) (z68 : Int32) (z69 : Int32) (z70 : Int32) : Option (Int32 × Int32) := (if x4 ≤ z68 then (J62 z70 z69) else (if z70 = 0 then (bd1 (f_X7_faultAt i_p0_sheets_3_lane i_p0_sheets_3_size x2 (x3 + z68)) (fun (z72 : Int32) => (bnd z72 (fun (z73 : Int32) => (if z73 = 0 then (ck (ixB (x3 + z68) 40) none) else (bnd (z68 + (1 : Int32)) (fun (z74 : Int32) => (again45 z74 z69 z73)))))))) else (J62 z70 z69)))
noncomputable def f_X11_read (i_p0_latestTear : Int32) (i_p0_sheets_0_lane : Int32) (i_p0_sheets_0_size : Int32) (i_p0_sheets_1_lane : Int32) (i_p0_sheets_1_size : Int32) (i_p0_sheets_2_lane : Int32) (i_p0_sheets_2_size : Int32) (i_p0_sheets_3_lane : Int32) (i_p0_sheets_3_size : Int32) (x1 : Int32) (x2 : Int32) (x3 : Int32) (x4 : Int32) : Option (Int32 × Int32) := (bd1 (f_X11_isSheet x1) (fun (z1 : Int32) => (if z1 = 0 then (some ((-1 : Int32), i_p0_latestTear)) else (bd1 (f_X11_isLane x2) (fun (z2 : Int32) => (if z2 = 0 then (some ((-1 : Int32), i_p0_latestTear)) else (if x4 < 0 then (some ((-1 : Int32), i_p0_latestTear)) else (if x4 ≤ (20 : Int32) then (ck (ixB x1 4) (if x1 = (0 : Int32) then (bnd (0 : Int32) (fun (z3 : Int32) => (bnd (0 : Int32) (fun (z4 : Int32) => (bnd (0 : Int32) (fun (z5 : Int32) => (jn (fun (z6 : Int32) (z7 : Int32) => (bnd (0 : Int32) (fun (z9 : Int32) => (jn (bnd z6 (fun (z11 : Int32) => (some (z7, z11)))) (fun (J10 : Option (Int32 × Int32)) => (lq1 (B_X11_read_114 z7 J10 x3) 1000 z9)))))) (fun (J8 : Int32 → Int32 → Option (Int32 × Int32)) => (lq3 (B_X11_read_45 x4 J8 i_p0_sheets_0_lane i_p0_sheets_0_size x2 x3) 1000 z5 z4 z3))))))))) else (if x1 = (1 : Int32) then (bnd (0 : Int32) (fun (z21 : Int32) => (bnd (0 : Int32) (fun (z22 : Int32) => (bnd (0 : Int32) (fun (z23 : Int32) => (jn (fun (z24 : Int32) (z25 : Int32) => (bnd (0 : Int32) (fun (z27 : Int32) => (jn (bnd z24 (fun (z29 : Int32) => (some (z25, z29)))) (fun (J28 : Option (Int32 × Int32)) => (lq1 (B_X11_read_114_2 z25 J28 x3) 1000 z27)))))) (fun (J26 : Int32 → Int32 → Option (Int32 × Int32)) => (lq3 (B_X11_read_45_2 x4 J26 i_p0_sheets_1_lane i_p0_sheets_1_size x2 x3) 1000 z23 z22 z21))))))))) else (if x1 = (2 : Int32) then (bnd (0 : Int32) (fun (z39 : Int32) => (bnd (0 : Int32) (fun (z40 : Int32) => (bnd (0 : Int32) (fun (z41 : Int32) => (jn (fun (z42 : Int32) (z43 : Int32) => (bnd (0 : Int32) (fun (z45 : Int32) => (jn (bnd z42 (fun (z47 : Int32) => (some (z43, z47)))) (fun (J46 : Option (Int32 × Int32)) => (lq1 (B_X11_read_114_3 z43 J46 x3) 1000 z45)))))) (fun (J44 : Int32 → Int32 → Option (Int32 × Int32)) => (lq3 (B_X11_read_45_3 x4 J44 i_p0_sheets_2_lane i_p0_sheets_2_size x2 x3) 1000 z41 z40 z39))))))))) else (if x1 = (3 : Int32) then (bnd (0 : Int32) (fun (z57 : Int32) => (bnd (0 : Int32) (fun (z58 : Int32) => (bnd (0 : Int32) (fun (z59 : Int32) => (jn (fun (z60 : Int32) (z61 : Int32) => (bnd (0 : Int32) (fun (z63 : Int32) => (jn (bnd z60 (fun (z65 : Int32) => (some (z61, z65)))) (fun (J64 : Option (Int32 × Int32)) => (lq1 (B_X11_read_114_4 z61 J64 x3) 1000 z63)))))) (fun (J62 : Int32 → Int32 → Option (Int32 × Int32)) => (lq3 (B_X11_read_45_4 x4 J62 i_p0_sheets_3_lane i_p0_sheets_3_size x2 x3) 1000 z59 z58 z57))))))))) else none))))) else (some ((-1 : Int32), i_p0_latestTear))))))))))
abbrev rm_X11_read : Room := { frames := 2, cells := 0, slots := 0, locals := 42 }
theorem inX11_read_X11 : ∀ w ∈ wsX110, w ∈ wsX11_read := by decide +kernel
theorem mwX11_read_1 : Cond.fieldLink RX11 95 "LadleKings" "sheets" "[LLadleKings$Sheet;" ∈ wsX11_read := by decide +kernel
theorem mwX11_read_2 : Cond.fieldLink RX11 103 "LadleKings" "latestTear" "I" ∈ wsX11_read := by decide +kernel
theorem mwX11_read_3 : Cond.fieldLink RX11 44 "LadleKings" "kitchen" "LLadleKings$Kitchen;" ∈ wsX11_read := by decide +kernel
theorem inX11_read_X7 : ∀ w ∈ wsX70, w ∈ wsX11_read := by decide +kernel
theorem mwX11_read_5 : Cond.fieldLink RX11 293 "LadleKings$Sheet" "cells" "[I" ∈ wsX11_read := by decide +kernel
set_option maxHeartbeats 8000000 in
set_option maxRecDepth 100000 in
theorem c_X11_read (l : Launch) (D : va_G) (G : Nat → ClassId) (sz : Nat) (a_p0 : Nat) (a_p0_rules : Nat) (a_p0_state : Nat) (a_p0_tape : Nat) (a_p0_reader : Nat) (a_p0_kitchen : Nat) (a_p0_luck : Nat) (a_p0_plans : Nat) (a_p0_coups : Nat) (a_p0_past : Nat) (a_p0_fairDays : Nat) (a_p0_images : Nat) (a_p0_imageHeld : Nat) (a_p0_sheets : Nat) (a_p0_sheets_0 : Nat) (a_p0_sheets_1 : Nat) (a_p0_sheets_2 : Nat) (a_p0_sheets_3 : Nat) (a_p0_sheets_0_cells : Nat) (a_p0_sheets_1_cells : Nat) (a_p0_sheets_2_cells : Nat) (a_p0_sheets_3_cells : Nat) (i_p0_latestFault : Int32) (i_p0_latestTear : Int32) (i_p0_sheets_0_lane : Int32) (i_p0_sheets_0_size : Int32) (v_p0_sheets_0_cells : (Nat → Int32)) (i_p0_sheets_1_lane : Int32) (i_p0_sheets_1_size : Int32) (v_p0_sheets_1_cells : (Nat → Int32)) (i_p0_sheets_2_lane : Int32) (i_p0_sheets_2_size : Int32) (v_p0_sheets_2_cells : (Nat → Int32)) (i_p0_sheets_3_lane : Int32) (i_p0_sheets_3_size : Int32) (v_p0_sheets_3_cells : (Nat → Int32)) (x1 : Int32) (x2 : Int32) (x3 : Int32) (x4 : Int32) (r : Int32) (o_i_p0_latestTear : Int32) (hf : f_X11_read i_p0_latestTear i_p0_sheets_0_lane i_p0_sheets_0_size i_p0_sheets_1_lane i_p0_sheets_1_size i_p0_sheets_2_lane i_p0_sheets_2_size i_p0_sheets_3_lane i_p0_sheets_3_size x1 x2 x3 x4 = some (r, o_i_p0_latestTear)) : Met l yX11_read wsX11_read rm_X11_read (pcG D G [.ref a_p0, .int x1, .int x2, .int x3, .int x4] sz [(a_p0, .inr (11, [.ref a_p0_rules, .ref a_p0_state, .ref a_p0_tape, .ref a_p0_reader, .ref a_p0_kitchen, .ref a_p0_luck, .ref a_p0_plans, .ref a_p0_coups, .ref a_p0_past, .ref a_p0_fairDays, .ref a_p0_images, .ref a_p0_imageHeld, .ref a_p0_sheets, .int i_p0_latestFault, .int i_p0_latestTear])), (a_p0_sheets, .inl (G 5, 4, .inr (.inr (.inr (.inr (va_up (va_up (va_up (va_up (fun _ => none) 0 (some a_p0_sheets_0)) 1 (some a_p0_sheets_1)) 2 (some a_p0_sheets_2)) 3 (some a_p0_sheets_3))))))), (a_p0_sheets_0, .inr (7, [.int i_p0_sheets_0_lane, .int i_p0_sheets_0_size, .ref a_p0_sheets_0_cells])), (a_p0_sheets_0_cells, .inl (G 1, 40, .inl v_p0_sheets_0_cells)), (a_p0_sheets_1, .inr (7, [.int i_p0_sheets_1_lane, .int i_p0_sheets_1_size, .ref a_p0_sheets_1_cells])), (a_p0_sheets_1_cells, .inl (G 1, 40, .inl v_p0_sheets_1_cells)), (a_p0_sheets_2, .inr (7, [.int i_p0_sheets_2_lane, .int i_p0_sheets_2_size, .ref a_p0_sheets_2_cells])), (a_p0_sheets_2_cells, .inl (G 1, 40, .inl v_p0_sheets_2_cells)), (a_p0_sheets_3, .inr (7, [.int i_p0_sheets_3_lane, .int i_p0_sheets_3_size, .ref a_p0_sheets_3_cells])), (a_p0_sheets_3_cells, .inl (G 1, 40, .inl v_p0_sheets_3_cells))]) (qcI D G r [(a_p0, .inr (11, [.ref a_p0_rules, .ref a_p0_state, .ref a_p0_tape, .ref a_p0_reader, .ref a_p0_kitchen, .ref a_p0_luck, .ref a_p0_plans, .ref a_p0_coups, .ref a_p0_past, .ref a_p0_fairDays, .ref a_p0_images, .ref a_p0_imageHeld, .ref a_p0_sheets, .int i_p0_latestFault, .int o_i_p0_latestTear])), (a_p0_sheets, .inl (G 5, 4, .inr (.inr (.inr (.inr (va_up (va_up (va_up (va_up (fun _ => none) 0 (some a_p0_sheets_0)) 1 (some a_p0_sheets_1)) 2 (some a_p0_sheets_2)) 3 (some a_p0_sheets_3))))))), (a_p0_sheets_0, .inr (7, [.int i_p0_sheets_0_lane, .int i_p0_sheets_0_size, .ref a_p0_sheets_0_cells])), (a_p0_sheets_0_cells, .inl (G 1, 40, .inl v_p0_sheets_0_cells)), (a_p0_sheets_1, .inr (7, [.int i_p0_sheets_1_lane, .int i_p0_sheets_1_size, .ref a_p0_sheets_1_cells])), (a_p0_sheets_1_cells, .inl (G 1, 40, .inl v_p0_sheets_1_cells)), (a_p0_sheets_2, .inr (7, [.int i_p0_sheets_2_lane, .int i_p0_sheets_2_size, .ref a_p0_sheets_2_cells])), (a_p0_sheets_2_cells, .inl (G 1, 40, .inl v_p0_sheets_2_cells)), (a_p0_sheets_3, .inr (7, [.int i_p0_sheets_3_lane, .int i_p0_sheets_3_size, .ref a_p0_sheets_3_cells])), (a_p0_sheets_3_cells, .inl (G 1, 40, .inl v_p0_sheets_3_cells))] (va_A [(a_p0, .inr (11, [.ref a_p0_rules, .ref a_p0_state, .ref a_p0_tape, .ref a_p0_reader, .ref a_p0_kitchen, .ref a_p0_luck, .ref a_p0_plans, .ref a_p0_coups, .ref a_p0_past, .ref a_p0_fairDays, .ref a_p0_images, .ref a_p0_imageHeld, .ref a_p0_sheets, .int i_p0_latestFault, .int i_p0_latestTear])), (a_p0_sheets, .inl (G 5, 4, .inr (.inr (.inr (.inr (va_up (va_up (va_up (va_up (fun _ => none) 0 (some a_p0_sheets_0)) 1 (some a_p0_sheets_1)) 2 (some a_p0_sheets_2)) 3 (some a_p0_sheets_3))))))), (a_p0_sheets_0, .inr (7, [.int i_p0_sheets_0_lane, .int i_p0_sheets_0_size, .ref a_p0_sheets_0_cells])), (a_p0_sheets_0_cells, .inl (G 1, 40, .inl v_p0_sheets_0_cells)), (a_p0_sheets_1, .inr (7, [.int i_p0_sheets_1_lane, .int i_p0_sheets_1_size, .ref a_p0_sheets_1_cells])), (a_p0_sheets_1_cells, .inl (G 1, 40, .inl v_p0_sheets_1_cells)), (a_p0_sheets_2, .inr (7, [.int i_p0_sheets_2_lane, .int i_p0_sheets_2_size, .ref a_p0_sheets_2_cells])), (a_p0_sheets_2_cells, .inl (G 1, 40, .inl v_p0_sheets_2_cells)), (a_p0_sheets_3, .inr (7, [.int i_p0_sheets_3_lane, .int i_p0_sheets_3_size, .ref a_p0_sheets_3_cells])), (a_p0_sheets_3_cells, .inl (G 1, 40, .inl v_p0_sheets_3_cells))] sz)) 0 0 (va_A [(a_p0, .inr (11, [.ref a_p0_rules, .ref a_p0_state, .ref a_p0_tape, .ref a_p0_reader, .ref a_p0_kitchen, .ref a_p0_luck, .ref a_p0_plans, .ref a_p0_coups, .ref a_p0_past, .ref a_p0_fairDays, .ref a_p0_images, .ref a_p0_imageHeld, .ref a_p0_sheets, .int i_p0_latestFault, .int i_p0_latestTear])), (a_p0_sheets, .inl (G 5, 4, .inr (.inr (.inr (.inr (va_up (va_up (va_up (va_up (fun _ => none) 0 (some a_p0_sheets_0)) 1 (some a_p0_sheets_1)) 2 (some a_p0_sheets_2)) 3 (some a_p0_sheets_3))))))), (a_p0_sheets_0, .inr (7, [.int i_p0_sheets_0_lane, .int i_p0_sheets_0_size, .ref a_p0_sheets_0_cells])), (a_p0_sheets_0_cells, .inl (G 1, 40, .inl v_p0_sheets_0_cells)), (a_p0_sheets_1, .inr (7, [.int i_p0_sheets_1_lane, .int i_p0_sheets_1_size, .ref a_p0_sheets_1_cells])), (a_p0_sheets_1_cells, .inl (G 1, 40, .inl v_p0_sheets_1_cells)), (a_p0_sheets_2, .inr (7, [.int i_p0_sheets_2_lane, .int i_p0_sheets_2_size, .ref a_p0_sheets_2_cells])), (a_p0_sheets_2_cells, .inl (G 1, 40, .inl v_p0_sheets_2_cells)), (a_p0_sheets_3, .inr (7, [.int i_p0_sheets_3_lane, .int i_p0_sheets_3_size, .ref a_p0_sheets_3_cells])), (a_p0_sheets_3_cells, .inl (G 1, 40, .inl v_p0_sheets_3_cells))] sz) := by
  refine Met.ofW (cc := cX11_read) (maxL := 9) (ret := (some .int)) (by decide) rfl ?_
  intro p e s m args below meth c s₁ B hml hv
  obtain ⟨rfl, hsz, hP, hK, hD0⟩ := hv
  have hx := B.exec
  have hb := B.bytes
  have hr := B.returns
  have hts := atoms_spec (ws := wsX11_read) B.pre
  have hown : s.vm.findClass RX11 = some m.cls := findClass_of_methodNamed B.named
  have hlocks := B.notSynchronized
  subst hsz
  have hD := hD0.self (sz := s.heap.size)
  generalize hAe : va_A [(a_p0, .inr (11, [.ref a_p0_rules, .ref a_p0_state, .ref a_p0_tape, .ref a_p0_reader, .ref a_p0_kitchen, .ref a_p0_luck, .ref a_p0_plans, .ref a_p0_coups, .ref a_p0_past, .ref a_p0_fairDays, .ref a_p0_images, .ref a_p0_imageHeld, .ref a_p0_sheets, .int i_p0_latestFault, .int i_p0_latestTear])), (a_p0_sheets, .inl (G 5, 4, .inr (.inr (.inr (.inr (va_up (va_up (va_up (va_up (fun _ => none) 0 (some a_p0_sheets_0)) 1 (some a_p0_sheets_1)) 2 (some a_p0_sheets_2)) 3 (some a_p0_sheets_3))))))), (a_p0_sheets_0, .inr (7, [.int i_p0_sheets_0_lane, .int i_p0_sheets_0_size, .ref a_p0_sheets_0_cells])), (a_p0_sheets_0_cells, .inl (G 1, 40, .inl v_p0_sheets_0_cells)), (a_p0_sheets_1, .inr (7, [.int i_p0_sheets_1_lane, .int i_p0_sheets_1_size, .ref a_p0_sheets_1_cells])), (a_p0_sheets_1_cells, .inl (G 1, 40, .inl v_p0_sheets_1_cells)), (a_p0_sheets_2, .inr (7, [.int i_p0_sheets_2_lane, .int i_p0_sheets_2_size, .ref a_p0_sheets_2_cells])), (a_p0_sheets_2_cells, .inl (G 1, 40, .inl v_p0_sheets_2_cells)), (a_p0_sheets_3, .inr (7, [.int i_p0_sheets_3_lane, .int i_p0_sheets_3_size, .ref a_p0_sheets_3_cells])), (a_p0_sheets_3_cells, .inl (G 1, 40, .inl v_p0_sheets_3_cells))] s.heap.size = A at hD ⊢
  have hA : ∀ q : Nat, s.heap.size ≤ q → A q := fun q h => by rw [← hAe]; exact Or.inr h
  clear hAe hD0
  have hS : va_S A s.heap s.heap [] := va_S.rf
  have hl := lv_entry ([.ref a_p0, .int x1, .int x2, .int x3, .int x4]) (n := 9) (Nat.le_of_ble_eq_true rfl)
  rw [lg_entry_eq]
  generalize (lg_sl ([.ref a_p0, .int x1, .int x2, .int x3, .int x4]) ++ List.replicate (9 - (lg_sl ([.ref a_p0, .int x1, .int x2, .int x3, .int x4])).length) Slot.unset).toArray = ls at hl ⊢
  have hl : lv_has ls 9 [(0, .ref a_p0), (1, .int x1), (2, .int x2), (3, .int x3), (4, .int x4)] := hl
  refine W_nameQ (fun Q hQ => ?_)
  obtain ⟨H, hH⟩ : ∃ H, H = s.heap := ⟨_, rfl⟩
  replace hS : va_S A s.heap H [] := by rw [hH]; exact hS
  replace hP : va_P D vwCl [(a_p0, .inr (11, [.ref a_p0_rules, .ref a_p0_state, .ref a_p0_tape, .ref a_p0_reader, .ref a_p0_kitchen, .ref a_p0_luck, .ref a_p0_plans, .ref a_p0_coups, .ref a_p0_past, .ref a_p0_fairDays, .ref a_p0_images, .ref a_p0_imageHeld, .ref a_p0_sheets, .int i_p0_latestFault, .int i_p0_latestTear])), (a_p0_sheets, .inl (G 5, 4, .inr (.inr (.inr (.inr (va_up (va_up (va_up (va_up (fun _ => none) 0 (some a_p0_sheets_0)) 1 (some a_p0_sheets_1)) 2 (some a_p0_sheets_2)) 3 (some a_p0_sheets_3))))))), (a_p0_sheets_0, .inr (7, [.int i_p0_sheets_0_lane, .int i_p0_sheets_0_size, .ref a_p0_sheets_0_cells])), (a_p0_sheets_0_cells, .inl (G 1, 40, .inl v_p0_sheets_0_cells)), (a_p0_sheets_1, .inr (7, [.int i_p0_sheets_1_lane, .int i_p0_sheets_1_size, .ref a_p0_sheets_1_cells])), (a_p0_sheets_1_cells, .inl (G 1, 40, .inl v_p0_sheets_1_cells)), (a_p0_sheets_2, .inr (7, [.int i_p0_sheets_2_lane, .int i_p0_sheets_2_size, .ref a_p0_sheets_2_cells])), (a_p0_sheets_2_cells, .inl (G 1, 40, .inl v_p0_sheets_2_cells)), (a_p0_sheets_3, .inr (7, [.int i_p0_sheets_3_lane, .int i_p0_sheets_3_size, .ref a_p0_sheets_3_cells])), (a_p0_sheets_3_cells, .inl (G 1, 40, .inl v_p0_sheets_3_cells))] H := by rw [hH]; exact hP
  rw [← hH]
  clear hH
  unfold f_X11_read at hf
  refine lv_iload_n hx hb dX11_read_0 rfl (lv_at hl 1 rfl) ?_
  have hq := bd1_s hf
  clear hf
  obtain ⟨z1, hcall, hf⟩ := hq
  refine gcI (ws' := [(a_p0, .inr (11, [.ref a_p0_rules, .ref a_p0_state, .ref a_p0_tape, .ref a_p0_reader, .ref a_p0_kitchen, .ref a_p0_luck, .ref a_p0_plans, .ref a_p0_coups, .ref a_p0_past, .ref a_p0_fairDays, .ref a_p0_images, .ref a_p0_imageHeld, .ref a_p0_sheets, .int i_p0_latestFault, .int i_p0_latestTear])), (a_p0_sheets, .inl (G 5, 4, .inr (.inr (.inr (.inr (va_up (va_up (va_up (va_up (fun _ => none) 0 (some a_p0_sheets_0)) 1 (some a_p0_sheets_1)) 2 (some a_p0_sheets_2)) 3 (some a_p0_sheets_3))))))), (a_p0_sheets_0, .inr (7, [.int i_p0_sheets_0_lane, .int i_p0_sheets_0_size, .ref a_p0_sheets_0_cells])), (a_p0_sheets_0_cells, .inl (G 1, 40, .inl v_p0_sheets_0_cells)), (a_p0_sheets_1, .inr (7, [.int i_p0_sheets_1_lane, .int i_p0_sheets_1_size, .ref a_p0_sheets_1_cells])), (a_p0_sheets_1_cells, .inl (G 1, 40, .inl v_p0_sheets_1_cells)), (a_p0_sheets_2, .inr (7, [.int i_p0_sheets_2_lane, .int i_p0_sheets_2_size, .ref a_p0_sheets_2_cells])), (a_p0_sheets_2_cells, .inl (G 1, 40, .inl v_p0_sheets_2_cells)), (a_p0_sheets_3, .inr (7, [.int i_p0_sheets_3_lane, .int i_p0_sheets_3_size, .ref a_p0_sheets_3_cells])), (a_p0_sheets_3_cells, .inl (G 1, 40, .inl v_p0_sheets_3_cells))]) (va_runS (As := [.int x1]) (rest := []) ⟨hx, hb, hml, hown, hts⟩ (c_X11_isSheet (l := l) (D := D) (G := G) (sz := H.size) (x0 := x1) (r := z1) (hf := hcall)) (va_cwS 1 hts gX11_read_X11_isSheet rfl rfl rfl (by decide +kernel) ⟨Nat.le_of_ble_eq_true rfl, Nat.le_of_ble_eq_true rfl⟩) (preG_S (hP.sub [] rfl) (hD.sub [] rfl rfl) hK) rfl rfl hl.1 rfl (lv_room (Nat.le_of_ble_eq_true rfl)) dX11_read_1 ⟨Nat.le_of_ble_eq_true rfl, Nat.le_of_ble_eq_true rfl⟩) hP hD hS hA [] [0, 1, 2, 3, 4, 5, 6, 7, 8, 9] [0, 1, 2, 3, 4, 5, 6, 7, 8, 9] rfl rfl rfl (by decide) rfl rfl rfl (fun H locs hP hD hS => ?_)
  clear hcall
  refine lv_if_eq (tgt := 26) hx hb dX11_read_4 (by decide) (fun cc => ?_) (fun cc => ?_)
  ·
    replace hf := ite_t cc hf
    clear cc
    refine lv_iconst (v := (-1 : Int32)) hx hb dX11_read_26 (by decide) ?_
    obtain ⟨rfl, rfl⟩ := ou2 hf
    rw [hQ]
    exact W.iret hx hb hr (fun t ht hW => ⟨⟨_, (), rfl, rfl, by rw [ht]; exact hP, va_K.moved hW.alike hK, hD⟩, hS.F ht⟩) hS.2.2 dX11_read_27
  ·
    replace hf := ite_f cc hf
    clear cc
    refine lv_iload_n hx hb dX11_read_7 rfl (lv_at hl 2 rfl) ?_
    have hq := bd1_s hf
    clear hf
    obtain ⟨z2, hcall, hf⟩ := hq
    refine gcI (ws' := [(a_p0, .inr (11, [.ref a_p0_rules, .ref a_p0_state, .ref a_p0_tape, .ref a_p0_reader, .ref a_p0_kitchen, .ref a_p0_luck, .ref a_p0_plans, .ref a_p0_coups, .ref a_p0_past, .ref a_p0_fairDays, .ref a_p0_images, .ref a_p0_imageHeld, .ref a_p0_sheets, .int i_p0_latestFault, .int i_p0_latestTear])), (a_p0_sheets, .inl (G 5, 4, .inr (.inr (.inr (.inr (va_up (va_up (va_up (va_up (fun _ => none) 0 (some a_p0_sheets_0)) 1 (some a_p0_sheets_1)) 2 (some a_p0_sheets_2)) 3 (some a_p0_sheets_3))))))), (a_p0_sheets_0, .inr (7, [.int i_p0_sheets_0_lane, .int i_p0_sheets_0_size, .ref a_p0_sheets_0_cells])), (a_p0_sheets_0_cells, .inl (G 1, 40, .inl v_p0_sheets_0_cells)), (a_p0_sheets_1, .inr (7, [.int i_p0_sheets_1_lane, .int i_p0_sheets_1_size, .ref a_p0_sheets_1_cells])), (a_p0_sheets_1_cells, .inl (G 1, 40, .inl v_p0_sheets_1_cells)), (a_p0_sheets_2, .inr (7, [.int i_p0_sheets_2_lane, .int i_p0_sheets_2_size, .ref a_p0_sheets_2_cells])), (a_p0_sheets_2_cells, .inl (G 1, 40, .inl v_p0_sheets_2_cells)), (a_p0_sheets_3, .inr (7, [.int i_p0_sheets_3_lane, .int i_p0_sheets_3_size, .ref a_p0_sheets_3_cells])), (a_p0_sheets_3_cells, .inl (G 1, 40, .inl v_p0_sheets_3_cells))]) (va_runS (As := [.int x2]) (rest := []) ⟨hx, hb, hml, hown, hts⟩ (c_X11_isLane (l := l) (D := D) (G := G) (sz := H.size) (x0 := x2) (r := z2) (hf := hcall)) (va_cwS 1 hts gX11_read_X11_isLane rfl rfl rfl (by decide +kernel) ⟨Nat.le_of_ble_eq_true rfl, Nat.le_of_ble_eq_true rfl⟩) (preG_S (hP.sub [] rfl) (hD.sub [] rfl rfl) hK) rfl rfl hl.1 rfl (lv_room (Nat.le_of_ble_eq_true rfl)) dX11_read_8 ⟨Nat.le_of_ble_eq_true rfl, Nat.le_of_ble_eq_true rfl⟩) hP hD hS hA [] [0, 1, 2, 3, 4, 5, 6, 7, 8, 9] [0, 1, 2, 3, 4, 5, 6, 7, 8, 9] rfl rfl rfl (by decide) rfl rfl rfl (fun H locs hP hD hS => ?_)
    clear hcall
    refine lv_if_eq (tgt := 26) hx hb dX11_read_11 (by decide) (fun cc => ?_) (fun cc => ?_)
    ·
      replace hf := ite_t cc hf
      clear cc
      refine lv_iconst (v := (-1 : Int32)) hx hb dX11_read_26 (by decide) ?_
      obtain ⟨rfl, rfl⟩ := ou2 hf
      rw [hQ]
      exact W.iret hx hb hr (fun t ht hW => ⟨⟨_, (), rfl, rfl, by rw [ht]; exact hP, va_K.moved hW.alike hK, hD⟩, hS.F ht⟩) hS.2.2 dX11_read_27
    ·
      replace hf := ite_f cc hf
      clear cc
      refine lv_iload hx hb dX11_read_14 (lv_at hl 4 rfl) ?_
      refine lv_if_lt (tgt := 26) hx hb dX11_read_16 (by decide) (fun cc => ?_) (fun cc => ?_)
      ·
        replace hf := ite_t cc hf
        clear cc
        refine lv_iconst (v := (-1 : Int32)) hx hb dX11_read_26 (by decide) ?_
        obtain ⟨rfl, rfl⟩ := ou2 hf
        rw [hQ]
        exact W.iret hx hb hr (fun t ht hW => ⟨⟨_, (), rfl, rfl, by rw [ht]; exact hP, va_K.moved hW.alike hK, hD⟩, hS.F ht⟩) hS.2.2 dX11_read_27
      ·
        replace hf := ite_f cc hf
        clear cc
        refine lv_iload hx hb dX11_read_19 (lv_at hl 4 rfl) ?_
        refine lv_bipush (v := (20 : Int32)) hx hb dX11_read_21 (by decide) ?_
        refine lv_icmp_le (tgt := 28) hx hb dX11_read_23 (by decide) (fun cc => ?_) (fun cc => ?_)
        ·
          replace hf := ite_t cc hf
          clear cc
          refine lv_aload_n hx hb dX11_read_28 rfl (lv_at hl 0 rfl) ?_
          refine va_get (D := D) (ci := 11) (v := .ref a_p0_sheets) (C := RX11) (T := TX11) (N := 15) hx hb hts inX11_read_X11 hown hK hP 0 rfl rfl 12 (by decide) (hts _ mwX11_read_1) (fun _ h9 => h9) rfl dX11_read_29 ?_
          refine lv_iload_n hx hb dX11_read_32 rfl (lv_at hl 1 rfl) ?_
          have hc := ck_c hf
          replace hf := ck_r hf
          refine va_aldq hx hb hK hP 1 5 rfl rfl (ixB_in hc) dX11_read_33 ?_
          clear hc
          rcases Decidable.em (x1 = (0 : Int32)) with cc | cc
          ·
            replace hf := ite_t cc hf
            refine W.eq (g2 := F0 m 34 ls [.ref a_p0_sheets_0]) (by rw [cc]; rfl) ?_
            clear cc
            refine lv_astore (lv' := [(5, .ref a_p0_sheets_0), (0, .ref a_p0), (1, .int x1), (2, .int x2), (3, .int x3), (4, .int x4)]) hx hb dX11_read_34 hl (by decide) rfl (fun ls hl => ?_)
            refine lv_iconst (v := (0 : Int32)) hx hb dX11_read_36 (by decide) ?_
            refine lv_topi (fun z3 ez => ?_)
            replace hf := bnd_s hf ez
            clear ez
            refine lv_istore (lv' := [(6, .int z3), (5, .ref a_p0_sheets_0), (0, .ref a_p0), (1, .int x1), (2, .int x2), (3, .int x3), (4, .int x4)]) hx hb dX11_read_37 hl (by decide) rfl (fun ls hl => ?_)
            refine lv_iconst (v := (0 : Int32)) hx hb dX11_read_39 (by decide) ?_
            refine lv_topi (fun z4 ez => ?_)
            replace hf := bnd_s hf ez
            clear ez
            refine lv_istore (lv' := [(7, .int z4), (6, .int z3), (5, .ref a_p0_sheets_0), (0, .ref a_p0), (1, .int x1), (2, .int x2), (3, .int x3), (4, .int x4)]) hx hb dX11_read_40 hl (by decide) rfl (fun ls hl => ?_)
            refine lv_iconst (v := (0 : Int32)) hx hb dX11_read_42 (by decide) ?_
            refine lv_topi (fun z5 ez => ?_)
            replace hf := bnd_s hf ez
            clear ez
            refine lv_istore (lv' := [(8, .int z5), (7, .int z4), (6, .int z3), (5, .ref a_p0_sheets_0), (0, .ref a_p0), (1, .int x1), (2, .int x2), (3, .int x3), (4, .int x4)]) hx hb dX11_read_43 hl (by decide) rfl (fun ls hl => ?_)
            have hq := jn_i hf
            clear hf
            obtain ⟨J8, eJ8, hf⟩ := hq
            have hJ8 : ∀ (z6 : Int32) (z7 : Int32) (ls : Array Slot) (H : Heap) (locs : List Loc), lv_has ls 9 [(7, .int z7), (6, .int z6), (5, .ref a_p0_sheets_0), (0, .ref a_p0), (3, .int x3)] → va_P D vwCl [(a_p0, .inr (11, [.ref a_p0_rules, .ref a_p0_state, .ref a_p0_tape, .ref a_p0_reader, .ref a_p0_kitchen, .ref a_p0_luck, .ref a_p0_plans, .ref a_p0_coups, .ref a_p0_past, .ref a_p0_fairDays, .ref a_p0_images, .ref a_p0_imageHeld, .ref a_p0_sheets, .int i_p0_latestFault, .int i_p0_latestTear])), (a_p0_sheets, .inl (G 5, 4, .inr (.inr (.inr (.inr (va_up (va_up (va_up (va_up (fun _ => none) 0 (some a_p0_sheets_0)) 1 (some a_p0_sheets_1)) 2 (some a_p0_sheets_2)) 3 (some a_p0_sheets_3))))))), (a_p0_sheets_0, .inr (7, [.int i_p0_sheets_0_lane, .int i_p0_sheets_0_size, .ref a_p0_sheets_0_cells])), (a_p0_sheets_0_cells, .inl (G 1, 40, .inl v_p0_sheets_0_cells)), (a_p0_sheets_1, .inr (7, [.int i_p0_sheets_1_lane, .int i_p0_sheets_1_size, .ref a_p0_sheets_1_cells])), (a_p0_sheets_1_cells, .inl (G 1, 40, .inl v_p0_sheets_1_cells)), (a_p0_sheets_2, .inr (7, [.int i_p0_sheets_2_lane, .int i_p0_sheets_2_size, .ref a_p0_sheets_2_cells])), (a_p0_sheets_2_cells, .inl (G 1, 40, .inl v_p0_sheets_2_cells)), (a_p0_sheets_3, .inr (7, [.int i_p0_sheets_3_lane, .int i_p0_sheets_3_size, .ref a_p0_sheets_3_cells])), (a_p0_sheets_3_cells, .inl (G 1, 40, .inl v_p0_sheets_3_cells))] H → va_D A [(a_p0, .inr (11, [.ref a_p0_rules, .ref a_p0_state, .ref a_p0_tape, .ref a_p0_reader, .ref a_p0_kitchen, .ref a_p0_luck, .ref a_p0_plans, .ref a_p0_coups, .ref a_p0_past, .ref a_p0_fairDays, .ref a_p0_images, .ref a_p0_imageHeld, .ref a_p0_sheets, .int i_p0_latestFault, .int i_p0_latestTear])), (a_p0_sheets, .inl (G 5, 4, .inr (.inr (.inr (.inr (va_up (va_up (va_up (va_up (fun _ => none) 0 (some a_p0_sheets_0)) 1 (some a_p0_sheets_1)) 2 (some a_p0_sheets_2)) 3 (some a_p0_sheets_3))))))), (a_p0_sheets_0, .inr (7, [.int i_p0_sheets_0_lane, .int i_p0_sheets_0_size, .ref a_p0_sheets_0_cells])), (a_p0_sheets_0_cells, .inl (G 1, 40, .inl v_p0_sheets_0_cells)), (a_p0_sheets_1, .inr (7, [.int i_p0_sheets_1_lane, .int i_p0_sheets_1_size, .ref a_p0_sheets_1_cells])), (a_p0_sheets_1_cells, .inl (G 1, 40, .inl v_p0_sheets_1_cells)), (a_p0_sheets_2, .inr (7, [.int i_p0_sheets_2_lane, .int i_p0_sheets_2_size, .ref a_p0_sheets_2_cells])), (a_p0_sheets_2_cells, .inl (G 1, 40, .inl v_p0_sheets_2_cells)), (a_p0_sheets_3, .inr (7, [.int i_p0_sheets_3_lane, .int i_p0_sheets_3_size, .ref a_p0_sheets_3_cells])), (a_p0_sheets_3_cells, .inl (G 1, 40, .inl v_p0_sheets_3_cells))] → va_S A s.heap H locs → J8 z6 z7 = some (r, o_i_p0_latestTear) → W p l e rm_X11_read s m ([.ref a_p0, .int x1, .int x2, .int x3, .int x4] : List Value).toArray below meth c H locs 0 0 Q (F0 m 111 ls []) := by
              clear hf hl hP hD hS
              intro z6 z7 ls H locs hl hP hD hS hf
              replace hf := jn2_s eJ8 hf
              refine lv_iconst (v := (0 : Int32)) hx hb dX11_read_111 (by decide) ?_
              refine lv_topi (fun z9 ez => ?_)
              replace hf := bnd_s hf ez
              clear ez
              refine lv_istore (lv' := [(8, .int z9), (7, .int z7), (6, .int z6), (5, .ref a_p0_sheets_0), (0, .ref a_p0), (3, .int x3)]) hx hb dX11_read_112 hl (by decide) rfl (fun ls hl => ?_)
              have hq := jn_i hf
              clear hf
              obtain ⟨J10, eJ10, hf⟩ := hq
              have hJ10 : ∀  (ls : Array Slot) (H : Heap) (locs : List Loc), lv_has ls 9 [(7, .int z7), (6, .int z6), (0, .ref a_p0)] → va_P D vwCl [(a_p0, .inr (11, [.ref a_p0_rules, .ref a_p0_state, .ref a_p0_tape, .ref a_p0_reader, .ref a_p0_kitchen, .ref a_p0_luck, .ref a_p0_plans, .ref a_p0_coups, .ref a_p0_past, .ref a_p0_fairDays, .ref a_p0_images, .ref a_p0_imageHeld, .ref a_p0_sheets, .int i_p0_latestFault, .int i_p0_latestTear])), (a_p0_sheets, .inl (G 5, 4, .inr (.inr (.inr (.inr (va_up (va_up (va_up (va_up (fun _ => none) 0 (some a_p0_sheets_0)) 1 (some a_p0_sheets_1)) 2 (some a_p0_sheets_2)) 3 (some a_p0_sheets_3))))))), (a_p0_sheets_0, .inr (7, [.int i_p0_sheets_0_lane, .int i_p0_sheets_0_size, .ref a_p0_sheets_0_cells])), (a_p0_sheets_0_cells, .inl (G 1, 40, .inl v_p0_sheets_0_cells)), (a_p0_sheets_1, .inr (7, [.int i_p0_sheets_1_lane, .int i_p0_sheets_1_size, .ref a_p0_sheets_1_cells])), (a_p0_sheets_1_cells, .inl (G 1, 40, .inl v_p0_sheets_1_cells)), (a_p0_sheets_2, .inr (7, [.int i_p0_sheets_2_lane, .int i_p0_sheets_2_size, .ref a_p0_sheets_2_cells])), (a_p0_sheets_2_cells, .inl (G 1, 40, .inl v_p0_sheets_2_cells)), (a_p0_sheets_3, .inr (7, [.int i_p0_sheets_3_lane, .int i_p0_sheets_3_size, .ref a_p0_sheets_3_cells])), (a_p0_sheets_3_cells, .inl (G 1, 40, .inl v_p0_sheets_3_cells))] H → va_D A [(a_p0, .inr (11, [.ref a_p0_rules, .ref a_p0_state, .ref a_p0_tape, .ref a_p0_reader, .ref a_p0_kitchen, .ref a_p0_luck, .ref a_p0_plans, .ref a_p0_coups, .ref a_p0_past, .ref a_p0_fairDays, .ref a_p0_images, .ref a_p0_imageHeld, .ref a_p0_sheets, .int i_p0_latestFault, .int i_p0_latestTear])), (a_p0_sheets, .inl (G 5, 4, .inr (.inr (.inr (.inr (va_up (va_up (va_up (va_up (fun _ => none) 0 (some a_p0_sheets_0)) 1 (some a_p0_sheets_1)) 2 (some a_p0_sheets_2)) 3 (some a_p0_sheets_3))))))), (a_p0_sheets_0, .inr (7, [.int i_p0_sheets_0_lane, .int i_p0_sheets_0_size, .ref a_p0_sheets_0_cells])), (a_p0_sheets_0_cells, .inl (G 1, 40, .inl v_p0_sheets_0_cells)), (a_p0_sheets_1, .inr (7, [.int i_p0_sheets_1_lane, .int i_p0_sheets_1_size, .ref a_p0_sheets_1_cells])), (a_p0_sheets_1_cells, .inl (G 1, 40, .inl v_p0_sheets_1_cells)), (a_p0_sheets_2, .inr (7, [.int i_p0_sheets_2_lane, .int i_p0_sheets_2_size, .ref a_p0_sheets_2_cells])), (a_p0_sheets_2_cells, .inl (G 1, 40, .inl v_p0_sheets_2_cells)), (a_p0_sheets_3, .inr (7, [.int i_p0_sheets_3_lane, .int i_p0_sheets_3_size, .ref a_p0_sheets_3_cells])), (a_p0_sheets_3_cells, .inl (G 1, 40, .inl v_p0_sheets_3_cells))] → va_S A s.heap H locs → J10  = some (r, o_i_p0_latestTear) → W p l e rm_X11_read s m ([.ref a_p0, .int x1, .int x2, .int x3, .int x4] : List Value).toArray below meth c H locs 0 0 Q (F0 m 144 ls []) := by
                clear hf hl hP hD hS
                intro  ls H locs hl hP hD hS hf
                replace hf := jn0_s eJ10 hf
                refine lv_aload_n hx hb dX11_read_144 rfl (lv_at hl 2 rfl) ?_
                refine lv_iload hx hb dX11_read_145 (lv_at hl 1 rfl) ?_
                refine lv_topi (fun z11 ez => ?_)
                replace hf := bnd_s hf ez
                clear ez
                refine va_put (D := D) (ci := 11) (v := .int z11) (ty := .int) (C := RX11) (T := TX11) (N := 15) hx hb hts inX11_read_X11 tyX11 tyX11_ok nmX11 hown hK hP hD hS 0 rfl rfl 14 (by decide) (hts _ mwX11_read_2) (fun _ h9 => h9) rfl (by decide +kernel) rfl rfl (Nat.le_of_ble_eq_true rfl) dX11_read_147 (fun H locs hP hD hS => ?_)
                have hP : va_P D vwCl [(a_p0, .inr (11, [.ref a_p0_rules, .ref a_p0_state, .ref a_p0_tape, .ref a_p0_reader, .ref a_p0_kitchen, .ref a_p0_luck, .ref a_p0_plans, .ref a_p0_coups, .ref a_p0_past, .ref a_p0_fairDays, .ref a_p0_images, .ref a_p0_imageHeld, .ref a_p0_sheets, .int i_p0_latestFault, .int z11])), (a_p0_sheets, .inl (G 5, 4, .inr (.inr (.inr (.inr (va_up (va_up (va_up (va_up (fun _ => none) 0 (some a_p0_sheets_0)) 1 (some a_p0_sheets_1)) 2 (some a_p0_sheets_2)) 3 (some a_p0_sheets_3))))))), (a_p0_sheets_0, .inr (7, [.int i_p0_sheets_0_lane, .int i_p0_sheets_0_size, .ref a_p0_sheets_0_cells])), (a_p0_sheets_0_cells, .inl (G 1, 40, .inl v_p0_sheets_0_cells)), (a_p0_sheets_1, .inr (7, [.int i_p0_sheets_1_lane, .int i_p0_sheets_1_size, .ref a_p0_sheets_1_cells])), (a_p0_sheets_1_cells, .inl (G 1, 40, .inl v_p0_sheets_1_cells)), (a_p0_sheets_2, .inr (7, [.int i_p0_sheets_2_lane, .int i_p0_sheets_2_size, .ref a_p0_sheets_2_cells])), (a_p0_sheets_2_cells, .inl (G 1, 40, .inl v_p0_sheets_2_cells)), (a_p0_sheets_3, .inr (7, [.int i_p0_sheets_3_lane, .int i_p0_sheets_3_size, .ref a_p0_sheets_3_cells])), (a_p0_sheets_3_cells, .inl (G 1, 40, .inl v_p0_sheets_3_cells))] H := hP
                have hD : va_D A [(a_p0, .inr (11, [.ref a_p0_rules, .ref a_p0_state, .ref a_p0_tape, .ref a_p0_reader, .ref a_p0_kitchen, .ref a_p0_luck, .ref a_p0_plans, .ref a_p0_coups, .ref a_p0_past, .ref a_p0_fairDays, .ref a_p0_images, .ref a_p0_imageHeld, .ref a_p0_sheets, .int i_p0_latestFault, .int z11])), (a_p0_sheets, .inl (G 5, 4, .inr (.inr (.inr (.inr (va_up (va_up (va_up (va_up (fun _ => none) 0 (some a_p0_sheets_0)) 1 (some a_p0_sheets_1)) 2 (some a_p0_sheets_2)) 3 (some a_p0_sheets_3))))))), (a_p0_sheets_0, .inr (7, [.int i_p0_sheets_0_lane, .int i_p0_sheets_0_size, .ref a_p0_sheets_0_cells])), (a_p0_sheets_0_cells, .inl (G 1, 40, .inl v_p0_sheets_0_cells)), (a_p0_sheets_1, .inr (7, [.int i_p0_sheets_1_lane, .int i_p0_sheets_1_size, .ref a_p0_sheets_1_cells])), (a_p0_sheets_1_cells, .inl (G 1, 40, .inl v_p0_sheets_1_cells)), (a_p0_sheets_2, .inr (7, [.int i_p0_sheets_2_lane, .int i_p0_sheets_2_size, .ref a_p0_sheets_2_cells])), (a_p0_sheets_2_cells, .inl (G 1, 40, .inl v_p0_sheets_2_cells)), (a_p0_sheets_3, .inr (7, [.int i_p0_sheets_3_lane, .int i_p0_sheets_3_size, .ref a_p0_sheets_3_cells])), (a_p0_sheets_3_cells, .inl (G 1, 40, .inl v_p0_sheets_3_cells))] := hD
                refine lv_iload hx hb dX11_read_150 (lv_at hl 0 rfl) ?_
                obtain ⟨rfl, rfl⟩ := ou2 hf
                rw [hQ]
                exact W.iret hx hb hr (fun t ht hW => ⟨⟨_, (), rfl, rfl, by rw [ht]; exact hP, va_K.moved hW.alike hK, hD⟩, hS.F ht⟩) hS.2.2 dX11_read_152
              have hq := lq1_i hf
              clear hf
              obtain ⟨B13, eB13, NB13, hf⟩ := hq
              have hB13 : ∀ (n : Nat) (z12 : Int32) (ls : Array Slot) (H : Heap) (locs : List Loc), lv_has ls 9 [(8, .int z12), (7, .int z7), (6, .int z6), (5, .ref a_p0_sheets_0), (0, .ref a_p0), (3, .int x3)] → va_P D vwCl [(a_p0, .inr (11, [.ref a_p0_rules, .ref a_p0_state, .ref a_p0_tape, .ref a_p0_reader, .ref a_p0_kitchen, .ref a_p0_luck, .ref a_p0_plans, .ref a_p0_coups, .ref a_p0_past, .ref a_p0_fairDays, .ref a_p0_images, .ref a_p0_imageHeld, .ref a_p0_sheets, .int i_p0_latestFault, .int i_p0_latestTear])), (a_p0_sheets, .inl (G 5, 4, .inr (.inr (.inr (.inr (va_up (va_up (va_up (va_up (fun _ => none) 0 (some a_p0_sheets_0)) 1 (some a_p0_sheets_1)) 2 (some a_p0_sheets_2)) 3 (some a_p0_sheets_3))))))), (a_p0_sheets_0, .inr (7, [.int i_p0_sheets_0_lane, .int i_p0_sheets_0_size, .ref a_p0_sheets_0_cells])), (a_p0_sheets_0_cells, .inl (G 1, 40, .inl v_p0_sheets_0_cells)), (a_p0_sheets_1, .inr (7, [.int i_p0_sheets_1_lane, .int i_p0_sheets_1_size, .ref a_p0_sheets_1_cells])), (a_p0_sheets_1_cells, .inl (G 1, 40, .inl v_p0_sheets_1_cells)), (a_p0_sheets_2, .inr (7, [.int i_p0_sheets_2_lane, .int i_p0_sheets_2_size, .ref a_p0_sheets_2_cells])), (a_p0_sheets_2_cells, .inl (G 1, 40, .inl v_p0_sheets_2_cells)), (a_p0_sheets_3, .inr (7, [.int i_p0_sheets_3_lane, .int i_p0_sheets_3_size, .ref a_p0_sheets_3_cells])), (a_p0_sheets_3_cells, .inl (G 1, 40, .inl v_p0_sheets_3_cells))] H → va_D A [(a_p0, .inr (11, [.ref a_p0_rules, .ref a_p0_state, .ref a_p0_tape, .ref a_p0_reader, .ref a_p0_kitchen, .ref a_p0_luck, .ref a_p0_plans, .ref a_p0_coups, .ref a_p0_past, .ref a_p0_fairDays, .ref a_p0_images, .ref a_p0_imageHeld, .ref a_p0_sheets, .int i_p0_latestFault, .int i_p0_latestTear])), (a_p0_sheets, .inl (G 5, 4, .inr (.inr (.inr (.inr (va_up (va_up (va_up (va_up (fun _ => none) 0 (some a_p0_sheets_0)) 1 (some a_p0_sheets_1)) 2 (some a_p0_sheets_2)) 3 (some a_p0_sheets_3))))))), (a_p0_sheets_0, .inr (7, [.int i_p0_sheets_0_lane, .int i_p0_sheets_0_size, .ref a_p0_sheets_0_cells])), (a_p0_sheets_0_cells, .inl (G 1, 40, .inl v_p0_sheets_0_cells)), (a_p0_sheets_1, .inr (7, [.int i_p0_sheets_1_lane, .int i_p0_sheets_1_size, .ref a_p0_sheets_1_cells])), (a_p0_sheets_1_cells, .inl (G 1, 40, .inl v_p0_sheets_1_cells)), (a_p0_sheets_2, .inr (7, [.int i_p0_sheets_2_lane, .int i_p0_sheets_2_size, .ref a_p0_sheets_2_cells])), (a_p0_sheets_2_cells, .inl (G 1, 40, .inl v_p0_sheets_2_cells)), (a_p0_sheets_3, .inr (7, [.int i_p0_sheets_3_lane, .int i_p0_sheets_3_size, .ref a_p0_sheets_3_cells])), (a_p0_sheets_3_cells, .inl (G 1, 40, .inl v_p0_sheets_3_cells))] → va_S A s.heap H locs → lq1 B13 n z12 = some (r, o_i_p0_latestTear) → W p l e rm_X11_read s m ([.ref a_p0, .int x1, .int x2, .int x3, .int x4] : List Value).toArray below meth c H locs 0 0 Q (F0 m 114 ls []) := by
                clear hf hl hP hD hS
                intro n
                induction n with
                | zero =>
                  intro z12 ls H locs hl hP hD hS hf
                  exact (lq1_0 hf).elim
                | succ n ih114 =>
                  intro z12 ls H locs hl hP hD hS hf
                  replace hf := lq1_s eB13 hf
                  unfold B_X11_read_114 at hf
                  refine lv_iload hx hb dX11_read_114 (lv_at hl 0 rfl) ?_
                  refine lv_iload hx hb dX11_read_116 (lv_at hl 1 rfl) ?_
                  refine lv_icmp_ge (tgt := 144) hx hb dX11_read_118 (by decide) (fun cc => ?_) (fun cc => ?_)
                  ·
                    replace hf := ite_t cc hf
                    clear cc
                    exact hJ10  _ _ _ (lv_sub hl [1, 2, 4] rfl) hP hD hS hf
                  ·
                    replace hf := ite_f cc hf
                    clear cc
                    refine lv_aload_n hx hb dX11_read_121 rfl (lv_at hl 4 rfl) ?_
                    refine va_get (D := D) (ci := 11) (v := .ref a_p0_kitchen) (C := RX11) (T := TX11) (N := 15) hx hb hts inX11_read_X11 hown hK hP 0 rfl rfl 4 (by decide) (hts _ mwX11_read_3) (fun _ h9 => h9) rfl dX11_read_122 ?_
                    refine lv_aload hx hb dX11_read_125 (lv_at hl 3 rfl) ?_
                    refine va_get (D := D) (ci := 7) (v := .ref a_p0_sheets_0_cells) (C := RX7) (T := TX7) (N := 3) hx hb hts inX11_read_X7 hown hK hP 2 rfl rfl 2 (by decide) (hts _ mwX11_read_5) (fun _ h9 => h9) rfl dX11_read_127 ?_
                    refine lv_iload_n hx hb dX11_read_130 rfl (lv_at hl 5 rfl) ?_
                    refine lv_iload hx hb dX11_read_131 (lv_at hl 0 rfl) ?_
                    refine lv_iadd hx hb dX11_read_133 ?_
                    have hc := ck_c hf
                    replace hf := ck_r hf
                    refine va_iald hx hb hK hP 3 1 rfl rfl (ixB_in hc) dX11_read_134 ?_
                    clear hc
                    cases hf
              exact hB13 _ _ _ _ _ (lv_sub hl [0, 1, 2, 3, 4, 5] rfl) hP hD hS hf
            have hq := lq3_i hf
            clear hf
            obtain ⟨B17, eB17, NB17, hf⟩ := hq
            have hB17 : ∀ (n : Nat) (z14 : Int32) (z15 : Int32) (z16 : Int32) (ls : Array Slot) (H : Heap) (locs : List Loc), lv_has ls 9 [(8, .int z14), (7, .int z15), (6, .int z16), (5, .ref a_p0_sheets_0), (0, .ref a_p0), (2, .int x2), (3, .int x3), (4, .int x4)] → va_P D vwCl [(a_p0, .inr (11, [.ref a_p0_rules, .ref a_p0_state, .ref a_p0_tape, .ref a_p0_reader, .ref a_p0_kitchen, .ref a_p0_luck, .ref a_p0_plans, .ref a_p0_coups, .ref a_p0_past, .ref a_p0_fairDays, .ref a_p0_images, .ref a_p0_imageHeld, .ref a_p0_sheets, .int i_p0_latestFault, .int i_p0_latestTear])), (a_p0_sheets, .inl (G 5, 4, .inr (.inr (.inr (.inr (va_up (va_up (va_up (va_up (fun _ => none) 0 (some a_p0_sheets_0)) 1 (some a_p0_sheets_1)) 2 (some a_p0_sheets_2)) 3 (some a_p0_sheets_3))))))), (a_p0_sheets_0, .inr (7, [.int i_p0_sheets_0_lane, .int i_p0_sheets_0_size, .ref a_p0_sheets_0_cells])), (a_p0_sheets_0_cells, .inl (G 1, 40, .inl v_p0_sheets_0_cells)), (a_p0_sheets_1, .inr (7, [.int i_p0_sheets_1_lane, .int i_p0_sheets_1_size, .ref a_p0_sheets_1_cells])), (a_p0_sheets_1_cells, .inl (G 1, 40, .inl v_p0_sheets_1_cells)), (a_p0_sheets_2, .inr (7, [.int i_p0_sheets_2_lane, .int i_p0_sheets_2_size, .ref a_p0_sheets_2_cells])), (a_p0_sheets_2_cells, .inl (G 1, 40, .inl v_p0_sheets_2_cells)), (a_p0_sheets_3, .inr (7, [.int i_p0_sheets_3_lane, .int i_p0_sheets_3_size, .ref a_p0_sheets_3_cells])), (a_p0_sheets_3_cells, .inl (G 1, 40, .inl v_p0_sheets_3_cells))] H → va_D A [(a_p0, .inr (11, [.ref a_p0_rules, .ref a_p0_state, .ref a_p0_tape, .ref a_p0_reader, .ref a_p0_kitchen, .ref a_p0_luck, .ref a_p0_plans, .ref a_p0_coups, .ref a_p0_past, .ref a_p0_fairDays, .ref a_p0_images, .ref a_p0_imageHeld, .ref a_p0_sheets, .int i_p0_latestFault, .int i_p0_latestTear])), (a_p0_sheets, .inl (G 5, 4, .inr (.inr (.inr (.inr (va_up (va_up (va_up (va_up (fun _ => none) 0 (some a_p0_sheets_0)) 1 (some a_p0_sheets_1)) 2 (some a_p0_sheets_2)) 3 (some a_p0_sheets_3))))))), (a_p0_sheets_0, .inr (7, [.int i_p0_sheets_0_lane, .int i_p0_sheets_0_size, .ref a_p0_sheets_0_cells])), (a_p0_sheets_0_cells, .inl (G 1, 40, .inl v_p0_sheets_0_cells)), (a_p0_sheets_1, .inr (7, [.int i_p0_sheets_1_lane, .int i_p0_sheets_1_size, .ref a_p0_sheets_1_cells])), (a_p0_sheets_1_cells, .inl (G 1, 40, .inl v_p0_sheets_1_cells)), (a_p0_sheets_2, .inr (7, [.int i_p0_sheets_2_lane, .int i_p0_sheets_2_size, .ref a_p0_sheets_2_cells])), (a_p0_sheets_2_cells, .inl (G 1, 40, .inl v_p0_sheets_2_cells)), (a_p0_sheets_3, .inr (7, [.int i_p0_sheets_3_lane, .int i_p0_sheets_3_size, .ref a_p0_sheets_3_cells])), (a_p0_sheets_3_cells, .inl (G 1, 40, .inl v_p0_sheets_3_cells))] → va_S A s.heap H locs → lq3 B17 n z14 z15 z16 = some (r, o_i_p0_latestTear) → W p l e rm_X11_read s m ([.ref a_p0, .int x1, .int x2, .int x3, .int x4] : List Value).toArray below meth c H locs 0 0 Q (F0 m 45 ls []) := by
              clear hf hl hP hD hS
              intro n
              induction n with
              | zero =>
                intro z14 z15 z16 ls H locs hl hP hD hS hf
                exact (lq3_0 hf).elim
              | succ n ih45 =>
                intro z14 z15 z16 ls H locs hl hP hD hS hf
                replace hf := lq3_s eB17 hf
                unfold B_X11_read_45 at hf
                refine lv_iload hx hb dX11_read_45 (lv_at hl 0 rfl) ?_
                refine lv_iload hx hb dX11_read_47 (lv_at hl 7 rfl) ?_
                refine lv_icmp_ge (tgt := 111) hx hb dX11_read_49 (by decide) (fun cc => ?_) (fun cc => ?_)
                ·
                  replace hf := ite_t cc hf
                  clear cc
                  exact hJ8 _ _ _ _ _ (lv_sub hl [1, 2, 3, 4, 6] rfl) hP hD hS hf
                ·
                  replace hf := ite_f cc hf
                  clear cc
                  refine lv_iload hx hb dX11_read_52 (lv_at hl 2 rfl) ?_
                  refine lv_if_ne (tgt := 111) hx hb dX11_read_54 (by decide) (fun cc => ?_) (fun cc => ?_)
                  ·
                    replace hf := ite_f cc hf
                    clear cc
                    exact hJ8 _ _ _ _ _ (lv_sub hl [1, 2, 3, 4, 6] rfl) hP hD hS hf
                  ·
                    replace hf := ite_t cc hf
                    clear cc
                    refine lv_aload hx hb dX11_read_57 (lv_at hl 3 rfl) ?_
                    refine lv_iload_n hx hb dX11_read_59 rfl (lv_at hl 5 rfl) ?_
                    refine lv_iload_n hx hb dX11_read_60 rfl (lv_at hl 6 rfl) ?_
                    refine lv_iload hx hb dX11_read_61 (lv_at hl 0 rfl) ?_
                    refine lv_iadd hx hb dX11_read_63 ?_
                    have hq := bd1_s hf
                    clear hf
                    obtain ⟨z18, hcall, hf⟩ := hq
                    refine gcI (ws' := [(a_p0, .inr (11, [.ref a_p0_rules, .ref a_p0_state, .ref a_p0_tape, .ref a_p0_reader, .ref a_p0_kitchen, .ref a_p0_luck, .ref a_p0_plans, .ref a_p0_coups, .ref a_p0_past, .ref a_p0_fairDays, .ref a_p0_images, .ref a_p0_imageHeld, .ref a_p0_sheets, .int i_p0_latestFault, .int i_p0_latestTear])), (a_p0_sheets, .inl (G 5, 4, .inr (.inr (.inr (.inr (va_up (va_up (va_up (va_up (fun _ => none) 0 (some a_p0_sheets_0)) 1 (some a_p0_sheets_1)) 2 (some a_p0_sheets_2)) 3 (some a_p0_sheets_3))))))), (a_p0_sheets_0, .inr (7, [.int i_p0_sheets_0_lane, .int i_p0_sheets_0_size, .ref a_p0_sheets_0_cells])), (a_p0_sheets_0_cells, .inl (G 1, 40, .inl v_p0_sheets_0_cells)), (a_p0_sheets_1, .inr (7, [.int i_p0_sheets_1_lane, .int i_p0_sheets_1_size, .ref a_p0_sheets_1_cells])), (a_p0_sheets_1_cells, .inl (G 1, 40, .inl v_p0_sheets_1_cells)), (a_p0_sheets_2, .inr (7, [.int i_p0_sheets_2_lane, .int i_p0_sheets_2_size, .ref a_p0_sheets_2_cells])), (a_p0_sheets_2_cells, .inl (G 1, 40, .inl v_p0_sheets_2_cells)), (a_p0_sheets_3, .inr (7, [.int i_p0_sheets_3_lane, .int i_p0_sheets_3_size, .ref a_p0_sheets_3_cells])), (a_p0_sheets_3_cells, .inl (G 1, 40, .inl v_p0_sheets_3_cells))]) (va_runV (As := [.int x2, .int (x3 + z14)]) (rest := []) ⟨hx, hb, hml, hown, hts⟩ (c_X7_faultAt (l := l) (D := D) (G := G) (sz := H.size) (a_p0 := a_p0_sheets_0) (a_p0_cells := a_p0_sheets_0_cells) (i_p0_lane := i_p0_sheets_0_lane) (i_p0_size := i_p0_sheets_0_size) (x1 := x2) (x2 := (x3 + z14)) (r := z18) (hf := hcall)) (cwV 2 hts gX11_read_X7_faultAt rfl rfl rfl (by decide +kernel) ⟨Nat.le_of_ble_eq_true rfl, Nat.le_of_ble_eq_true rfl⟩) (preG_V (ci := 7) (hP.sub [2] rfl) (hD.sub [2] rfl rfl) hK rfl rfl) rfl rfl hl.1 rfl (lv_room (Nat.le_of_ble_eq_true rfl)) dX11_read_64 ⟨Nat.le_of_ble_eq_true rfl, Nat.le_of_ble_eq_true rfl⟩) hP hD hS hA [2] [0, 1, 3, 4, 5, 6, 7, 8, 9] [0, 1, 9, 2, 3, 4, 5, 6, 7, 8] rfl rfl rfl (by decide) rfl rfl rfl (fun H locs hP hD hS => ?_)
                    clear hcall
                    refine lv_topi (fun z19 ez => ?_)
                    replace hf := bnd_s hf ez
                    clear ez
                    refine lv_istore (lv' := [(6, .int z19), (8, .int z14), (7, .int z15), (5, .ref a_p0_sheets_0), (0, .ref a_p0), (2, .int x2), (3, .int x3), (4, .int x4)]) hx hb dX11_read_67 hl (by decide) rfl (fun ls hl => ?_)
                    refine lv_iload hx hb dX11_read_69 (lv_at hl 0 rfl) ?_
                    refine lv_if_ne (tgt := 105) hx hb dX11_read_71 (by decide) (fun cc => ?_) (fun cc => ?_)
                    ·
                      replace hf := ite_f cc hf
                      clear cc
                      obtain ⟨z20, ez⟩ : ∃ y : Int32, y = (z14 + (1 : Int32)) := ⟨_, rfl⟩
                      replace hf := bnd_s hf ez
                      refine lv_iinc (v := z20) (lv' := [(8, .int z20), (6, .int z19), (7, .int z15), (5, .ref a_p0_sheets_0), (0, .ref a_p0), (2, .int x2), (3, .int x3), (4, .int x4)]) hx hb dX11_read_105 hl (k := 1) rfl (by rw [ez]; rfl) (by decide) rfl (fun ls hl => ?_)
                      clear ez
                      refine lv_goto (tgt := 45) hx hb dX11_read_108 (by decide) ?_
                      exact ih45 _ _ _ _ _ _ (lv_sub hl [0, 2, 1, 3, 4, 5, 6, 7] rfl) hP hD hS hf
                    ·
                      replace hf := ite_t cc hf
                      clear cc
                      refine lv_aload_n hx hb dX11_read_74 rfl (lv_at hl 4 rfl) ?_
                      refine lv_aload hx hb dX11_read_75 (lv_at hl 3 rfl) ?_
                      refine va_get (D := D) (ci := 7) (v := .ref a_p0_sheets_0_cells) (C := RX7) (T := TX7) (N := 3) hx hb hts inX11_read_X7 hown hK hP 2 rfl rfl 2 (by decide) (hts _ mwX11_read_5) (fun _ h9 => h9) rfl dX11_read_77 ?_
                      refine lv_iload_n hx hb dX11_read_80 rfl (lv_at hl 6 rfl) ?_
                      refine lv_iload hx hb dX11_read_81 (lv_at hl 1 rfl) ?_
                      refine lv_iadd hx hb dX11_read_83 ?_
                      have hc := ck_c hf
                      replace hf := ck_r hf
                      refine va_iald hx hb hK hP 3 1 rfl rfl (ixB_in hc) dX11_read_84 ?_
                      clear hc
                      refine lv_iload hx hb dX11_read_85 (lv_at hl 1 rfl) ?_
                      cases hf
            exact hB17 _ _ _ _ _ _ _ (lv_sub hl [0, 1, 2, 3, 4, 6, 7, 8] rfl) hP hD hS hf
          replace hf := ite_f cc hf
          clear cc
          rcases Decidable.em (x1 = (1 : Int32)) with cc | cc
          ·
            replace hf := ite_t cc hf
            refine W.eq (g2 := F0 m 34 ls [.ref a_p0_sheets_1]) (by rw [cc]; rfl) ?_
            clear cc
            refine lv_astore (lv' := [(5, .ref a_p0_sheets_1), (0, .ref a_p0), (1, .int x1), (2, .int x2), (3, .int x3), (4, .int x4)]) hx hb dX11_read_34 hl (by decide) rfl (fun ls hl => ?_)
            refine lv_iconst (v := (0 : Int32)) hx hb dX11_read_36 (by decide) ?_
            refine lv_topi (fun z21 ez => ?_)
            replace hf := bnd_s hf ez
            clear ez
            refine lv_istore (lv' := [(6, .int z21), (5, .ref a_p0_sheets_1), (0, .ref a_p0), (1, .int x1), (2, .int x2), (3, .int x3), (4, .int x4)]) hx hb dX11_read_37 hl (by decide) rfl (fun ls hl => ?_)
            refine lv_iconst (v := (0 : Int32)) hx hb dX11_read_39 (by decide) ?_
            refine lv_topi (fun z22 ez => ?_)
            replace hf := bnd_s hf ez
            clear ez
            refine lv_istore (lv' := [(7, .int z22), (6, .int z21), (5, .ref a_p0_sheets_1), (0, .ref a_p0), (1, .int x1), (2, .int x2), (3, .int x3), (4, .int x4)]) hx hb dX11_read_40 hl (by decide) rfl (fun ls hl => ?_)
            refine lv_iconst (v := (0 : Int32)) hx hb dX11_read_42 (by decide) ?_
            refine lv_topi (fun z23 ez => ?_)
            replace hf := bnd_s hf ez
            clear ez
            refine lv_istore (lv' := [(8, .int z23), (7, .int z22), (6, .int z21), (5, .ref a_p0_sheets_1), (0, .ref a_p0), (1, .int x1), (2, .int x2), (3, .int x3), (4, .int x4)]) hx hb dX11_read_43 hl (by decide) rfl (fun ls hl => ?_)
            have hq := jn_i hf
            clear hf
            obtain ⟨J26, eJ26, hf⟩ := hq
            have hJ26 : ∀ (z24 : Int32) (z25 : Int32) (ls : Array Slot) (H : Heap) (locs : List Loc), lv_has ls 9 [(7, .int z25), (6, .int z24), (5, .ref a_p0_sheets_1), (0, .ref a_p0), (3, .int x3)] → va_P D vwCl [(a_p0, .inr (11, [.ref a_p0_rules, .ref a_p0_state, .ref a_p0_tape, .ref a_p0_reader, .ref a_p0_kitchen, .ref a_p0_luck, .ref a_p0_plans, .ref a_p0_coups, .ref a_p0_past, .ref a_p0_fairDays, .ref a_p0_images, .ref a_p0_imageHeld, .ref a_p0_sheets, .int i_p0_latestFault, .int i_p0_latestTear])), (a_p0_sheets, .inl (G 5, 4, .inr (.inr (.inr (.inr (va_up (va_up (va_up (va_up (fun _ => none) 0 (some a_p0_sheets_0)) 1 (some a_p0_sheets_1)) 2 (some a_p0_sheets_2)) 3 (some a_p0_sheets_3))))))), (a_p0_sheets_0, .inr (7, [.int i_p0_sheets_0_lane, .int i_p0_sheets_0_size, .ref a_p0_sheets_0_cells])), (a_p0_sheets_0_cells, .inl (G 1, 40, .inl v_p0_sheets_0_cells)), (a_p0_sheets_1, .inr (7, [.int i_p0_sheets_1_lane, .int i_p0_sheets_1_size, .ref a_p0_sheets_1_cells])), (a_p0_sheets_1_cells, .inl (G 1, 40, .inl v_p0_sheets_1_cells)), (a_p0_sheets_2, .inr (7, [.int i_p0_sheets_2_lane, .int i_p0_sheets_2_size, .ref a_p0_sheets_2_cells])), (a_p0_sheets_2_cells, .inl (G 1, 40, .inl v_p0_sheets_2_cells)), (a_p0_sheets_3, .inr (7, [.int i_p0_sheets_3_lane, .int i_p0_sheets_3_size, .ref a_p0_sheets_3_cells])), (a_p0_sheets_3_cells, .inl (G 1, 40, .inl v_p0_sheets_3_cells))] H → va_D A [(a_p0, .inr (11, [.ref a_p0_rules, .ref a_p0_state, .ref a_p0_tape, .ref a_p0_reader, .ref a_p0_kitchen, .ref a_p0_luck, .ref a_p0_plans, .ref a_p0_coups, .ref a_p0_past, .ref a_p0_fairDays, .ref a_p0_images, .ref a_p0_imageHeld, .ref a_p0_sheets, .int i_p0_latestFault, .int i_p0_latestTear])), (a_p0_sheets, .inl (G 5, 4, .inr (.inr (.inr (.inr (va_up (va_up (va_up (va_up (fun _ => none) 0 (some a_p0_sheets_0)) 1 (some a_p0_sheets_1)) 2 (some a_p0_sheets_2)) 3 (some a_p0_sheets_3))))))), (a_p0_sheets_0, .inr (7, [.int i_p0_sheets_0_lane, .int i_p0_sheets_0_size, .ref a_p0_sheets_0_cells])), (a_p0_sheets_0_cells, .inl (G 1, 40, .inl v_p0_sheets_0_cells)), (a_p0_sheets_1, .inr (7, [.int i_p0_sheets_1_lane, .int i_p0_sheets_1_size, .ref a_p0_sheets_1_cells])), (a_p0_sheets_1_cells, .inl (G 1, 40, .inl v_p0_sheets_1_cells)), (a_p0_sheets_2, .inr (7, [.int i_p0_sheets_2_lane, .int i_p0_sheets_2_size, .ref a_p0_sheets_2_cells])), (a_p0_sheets_2_cells, .inl (G 1, 40, .inl v_p0_sheets_2_cells)), (a_p0_sheets_3, .inr (7, [.int i_p0_sheets_3_lane, .int i_p0_sheets_3_size, .ref a_p0_sheets_3_cells])), (a_p0_sheets_3_cells, .inl (G 1, 40, .inl v_p0_sheets_3_cells))] → va_S A s.heap H locs → J26 z24 z25 = some (r, o_i_p0_latestTear) → W p l e rm_X11_read s m ([.ref a_p0, .int x1, .int x2, .int x3, .int x4] : List Value).toArray below meth c H locs 0 0 Q (F0 m 111 ls []) := by
              clear hf hl hP hD hS
              intro z24 z25 ls H locs hl hP hD hS hf
              replace hf := jn2_s eJ26 hf
              refine lv_iconst (v := (0 : Int32)) hx hb dX11_read_111 (by decide) ?_
              refine lv_topi (fun z27 ez => ?_)
              replace hf := bnd_s hf ez
              clear ez
              refine lv_istore (lv' := [(8, .int z27), (7, .int z25), (6, .int z24), (5, .ref a_p0_sheets_1), (0, .ref a_p0), (3, .int x3)]) hx hb dX11_read_112 hl (by decide) rfl (fun ls hl => ?_)
              have hq := jn_i hf
              clear hf
              obtain ⟨J28, eJ28, hf⟩ := hq
              have hJ28 : ∀  (ls : Array Slot) (H : Heap) (locs : List Loc), lv_has ls 9 [(7, .int z25), (6, .int z24), (0, .ref a_p0)] → va_P D vwCl [(a_p0, .inr (11, [.ref a_p0_rules, .ref a_p0_state, .ref a_p0_tape, .ref a_p0_reader, .ref a_p0_kitchen, .ref a_p0_luck, .ref a_p0_plans, .ref a_p0_coups, .ref a_p0_past, .ref a_p0_fairDays, .ref a_p0_images, .ref a_p0_imageHeld, .ref a_p0_sheets, .int i_p0_latestFault, .int i_p0_latestTear])), (a_p0_sheets, .inl (G 5, 4, .inr (.inr (.inr (.inr (va_up (va_up (va_up (va_up (fun _ => none) 0 (some a_p0_sheets_0)) 1 (some a_p0_sheets_1)) 2 (some a_p0_sheets_2)) 3 (some a_p0_sheets_3))))))), (a_p0_sheets_0, .inr (7, [.int i_p0_sheets_0_lane, .int i_p0_sheets_0_size, .ref a_p0_sheets_0_cells])), (a_p0_sheets_0_cells, .inl (G 1, 40, .inl v_p0_sheets_0_cells)), (a_p0_sheets_1, .inr (7, [.int i_p0_sheets_1_lane, .int i_p0_sheets_1_size, .ref a_p0_sheets_1_cells])), (a_p0_sheets_1_cells, .inl (G 1, 40, .inl v_p0_sheets_1_cells)), (a_p0_sheets_2, .inr (7, [.int i_p0_sheets_2_lane, .int i_p0_sheets_2_size, .ref a_p0_sheets_2_cells])), (a_p0_sheets_2_cells, .inl (G 1, 40, .inl v_p0_sheets_2_cells)), (a_p0_sheets_3, .inr (7, [.int i_p0_sheets_3_lane, .int i_p0_sheets_3_size, .ref a_p0_sheets_3_cells])), (a_p0_sheets_3_cells, .inl (G 1, 40, .inl v_p0_sheets_3_cells))] H → va_D A [(a_p0, .inr (11, [.ref a_p0_rules, .ref a_p0_state, .ref a_p0_tape, .ref a_p0_reader, .ref a_p0_kitchen, .ref a_p0_luck, .ref a_p0_plans, .ref a_p0_coups, .ref a_p0_past, .ref a_p0_fairDays, .ref a_p0_images, .ref a_p0_imageHeld, .ref a_p0_sheets, .int i_p0_latestFault, .int i_p0_latestTear])), (a_p0_sheets, .inl (G 5, 4, .inr (.inr (.inr (.inr (va_up (va_up (va_up (va_up (fun _ => none) 0 (some a_p0_sheets_0)) 1 (some a_p0_sheets_1)) 2 (some a_p0_sheets_2)) 3 (some a_p0_sheets_3))))))), (a_p0_sheets_0, .inr (7, [.int i_p0_sheets_0_lane, .int i_p0_sheets_0_size, .ref a_p0_sheets_0_cells])), (a_p0_sheets_0_cells, .inl (G 1, 40, .inl v_p0_sheets_0_cells)), (a_p0_sheets_1, .inr (7, [.int i_p0_sheets_1_lane, .int i_p0_sheets_1_size, .ref a_p0_sheets_1_cells])), (a_p0_sheets_1_cells, .inl (G 1, 40, .inl v_p0_sheets_1_cells)), (a_p0_sheets_2, .inr (7, [.int i_p0_sheets_2_lane, .int i_p0_sheets_2_size, .ref a_p0_sheets_2_cells])), (a_p0_sheets_2_cells, .inl (G 1, 40, .inl v_p0_sheets_2_cells)), (a_p0_sheets_3, .inr (7, [.int i_p0_sheets_3_lane, .int i_p0_sheets_3_size, .ref a_p0_sheets_3_cells])), (a_p0_sheets_3_cells, .inl (G 1, 40, .inl v_p0_sheets_3_cells))] → va_S A s.heap H locs → J28  = some (r, o_i_p0_latestTear) → W p l e rm_X11_read s m ([.ref a_p0, .int x1, .int x2, .int x3, .int x4] : List Value).toArray below meth c H locs 0 0 Q (F0 m 144 ls []) := by
                clear hf hl hP hD hS
                intro  ls H locs hl hP hD hS hf
                replace hf := jn0_s eJ28 hf
                refine lv_aload_n hx hb dX11_read_144 rfl (lv_at hl 2 rfl) ?_
                refine lv_iload hx hb dX11_read_145 (lv_at hl 1 rfl) ?_
                refine lv_topi (fun z29 ez => ?_)
                replace hf := bnd_s hf ez
                clear ez
                refine va_put (D := D) (ci := 11) (v := .int z29) (ty := .int) (C := RX11) (T := TX11) (N := 15) hx hb hts inX11_read_X11 tyX11 tyX11_ok nmX11 hown hK hP hD hS 0 rfl rfl 14 (by decide) (hts _ mwX11_read_2) (fun _ h9 => h9) rfl (by decide +kernel) rfl rfl (Nat.le_of_ble_eq_true rfl) dX11_read_147 (fun H locs hP hD hS => ?_)
                have hP : va_P D vwCl [(a_p0, .inr (11, [.ref a_p0_rules, .ref a_p0_state, .ref a_p0_tape, .ref a_p0_reader, .ref a_p0_kitchen, .ref a_p0_luck, .ref a_p0_plans, .ref a_p0_coups, .ref a_p0_past, .ref a_p0_fairDays, .ref a_p0_images, .ref a_p0_imageHeld, .ref a_p0_sheets, .int i_p0_latestFault, .int z29])), (a_p0_sheets, .inl (G 5, 4, .inr (.inr (.inr (.inr (va_up (va_up (va_up (va_up (fun _ => none) 0 (some a_p0_sheets_0)) 1 (some a_p0_sheets_1)) 2 (some a_p0_sheets_2)) 3 (some a_p0_sheets_3))))))), (a_p0_sheets_0, .inr (7, [.int i_p0_sheets_0_lane, .int i_p0_sheets_0_size, .ref a_p0_sheets_0_cells])), (a_p0_sheets_0_cells, .inl (G 1, 40, .inl v_p0_sheets_0_cells)), (a_p0_sheets_1, .inr (7, [.int i_p0_sheets_1_lane, .int i_p0_sheets_1_size, .ref a_p0_sheets_1_cells])), (a_p0_sheets_1_cells, .inl (G 1, 40, .inl v_p0_sheets_1_cells)), (a_p0_sheets_2, .inr (7, [.int i_p0_sheets_2_lane, .int i_p0_sheets_2_size, .ref a_p0_sheets_2_cells])), (a_p0_sheets_2_cells, .inl (G 1, 40, .inl v_p0_sheets_2_cells)), (a_p0_sheets_3, .inr (7, [.int i_p0_sheets_3_lane, .int i_p0_sheets_3_size, .ref a_p0_sheets_3_cells])), (a_p0_sheets_3_cells, .inl (G 1, 40, .inl v_p0_sheets_3_cells))] H := hP
                have hD : va_D A [(a_p0, .inr (11, [.ref a_p0_rules, .ref a_p0_state, .ref a_p0_tape, .ref a_p0_reader, .ref a_p0_kitchen, .ref a_p0_luck, .ref a_p0_plans, .ref a_p0_coups, .ref a_p0_past, .ref a_p0_fairDays, .ref a_p0_images, .ref a_p0_imageHeld, .ref a_p0_sheets, .int i_p0_latestFault, .int z29])), (a_p0_sheets, .inl (G 5, 4, .inr (.inr (.inr (.inr (va_up (va_up (va_up (va_up (fun _ => none) 0 (some a_p0_sheets_0)) 1 (some a_p0_sheets_1)) 2 (some a_p0_sheets_2)) 3 (some a_p0_sheets_3))))))), (a_p0_sheets_0, .inr (7, [.int i_p0_sheets_0_lane, .int i_p0_sheets_0_size, .ref a_p0_sheets_0_cells])), (a_p0_sheets_0_cells, .inl (G 1, 40, .inl v_p0_sheets_0_cells)), (a_p0_sheets_1, .inr (7, [.int i_p0_sheets_1_lane, .int i_p0_sheets_1_size, .ref a_p0_sheets_1_cells])), (a_p0_sheets_1_cells, .inl (G 1, 40, .inl v_p0_sheets_1_cells)), (a_p0_sheets_2, .inr (7, [.int i_p0_sheets_2_lane, .int i_p0_sheets_2_size, .ref a_p0_sheets_2_cells])), (a_p0_sheets_2_cells, .inl (G 1, 40, .inl v_p0_sheets_2_cells)), (a_p0_sheets_3, .inr (7, [.int i_p0_sheets_3_lane, .int i_p0_sheets_3_size, .ref a_p0_sheets_3_cells])), (a_p0_sheets_3_cells, .inl (G 1, 40, .inl v_p0_sheets_3_cells))] := hD
                refine lv_iload hx hb dX11_read_150 (lv_at hl 0 rfl) ?_
                obtain ⟨rfl, rfl⟩ := ou2 hf
                rw [hQ]
                exact W.iret hx hb hr (fun t ht hW => ⟨⟨_, (), rfl, rfl, by rw [ht]; exact hP, va_K.moved hW.alike hK, hD⟩, hS.F ht⟩) hS.2.2 dX11_read_152
              have hq := lq1_i hf
              clear hf
              obtain ⟨B31, eB31, NB31, hf⟩ := hq
              have hB31 : ∀ (n : Nat) (z30 : Int32) (ls : Array Slot) (H : Heap) (locs : List Loc), lv_has ls 9 [(8, .int z30), (7, .int z25), (6, .int z24), (5, .ref a_p0_sheets_1), (0, .ref a_p0), (3, .int x3)] → va_P D vwCl [(a_p0, .inr (11, [.ref a_p0_rules, .ref a_p0_state, .ref a_p0_tape, .ref a_p0_reader, .ref a_p0_kitchen, .ref a_p0_luck, .ref a_p0_plans, .ref a_p0_coups, .ref a_p0_past, .ref a_p0_fairDays, .ref a_p0_images, .ref a_p0_imageHeld, .ref a_p0_sheets, .int i_p0_latestFault, .int i_p0_latestTear])), (a_p0_sheets, .inl (G 5, 4, .inr (.inr (.inr (.inr (va_up (va_up (va_up (va_up (fun _ => none) 0 (some a_p0_sheets_0)) 1 (some a_p0_sheets_1)) 2 (some a_p0_sheets_2)) 3 (some a_p0_sheets_3))))))), (a_p0_sheets_0, .inr (7, [.int i_p0_sheets_0_lane, .int i_p0_sheets_0_size, .ref a_p0_sheets_0_cells])), (a_p0_sheets_0_cells, .inl (G 1, 40, .inl v_p0_sheets_0_cells)), (a_p0_sheets_1, .inr (7, [.int i_p0_sheets_1_lane, .int i_p0_sheets_1_size, .ref a_p0_sheets_1_cells])), (a_p0_sheets_1_cells, .inl (G 1, 40, .inl v_p0_sheets_1_cells)), (a_p0_sheets_2, .inr (7, [.int i_p0_sheets_2_lane, .int i_p0_sheets_2_size, .ref a_p0_sheets_2_cells])), (a_p0_sheets_2_cells, .inl (G 1, 40, .inl v_p0_sheets_2_cells)), (a_p0_sheets_3, .inr (7, [.int i_p0_sheets_3_lane, .int i_p0_sheets_3_size, .ref a_p0_sheets_3_cells])), (a_p0_sheets_3_cells, .inl (G 1, 40, .inl v_p0_sheets_3_cells))] H → va_D A [(a_p0, .inr (11, [.ref a_p0_rules, .ref a_p0_state, .ref a_p0_tape, .ref a_p0_reader, .ref a_p0_kitchen, .ref a_p0_luck, .ref a_p0_plans, .ref a_p0_coups, .ref a_p0_past, .ref a_p0_fairDays, .ref a_p0_images, .ref a_p0_imageHeld, .ref a_p0_sheets, .int i_p0_latestFault, .int i_p0_latestTear])), (a_p0_sheets, .inl (G 5, 4, .inr (.inr (.inr (.inr (va_up (va_up (va_up (va_up (fun _ => none) 0 (some a_p0_sheets_0)) 1 (some a_p0_sheets_1)) 2 (some a_p0_sheets_2)) 3 (some a_p0_sheets_3))))))), (a_p0_sheets_0, .inr (7, [.int i_p0_sheets_0_lane, .int i_p0_sheets_0_size, .ref a_p0_sheets_0_cells])), (a_p0_sheets_0_cells, .inl (G 1, 40, .inl v_p0_sheets_0_cells)), (a_p0_sheets_1, .inr (7, [.int i_p0_sheets_1_lane, .int i_p0_sheets_1_size, .ref a_p0_sheets_1_cells])), (a_p0_sheets_1_cells, .inl (G 1, 40, .inl v_p0_sheets_1_cells)), (a_p0_sheets_2, .inr (7, [.int i_p0_sheets_2_lane, .int i_p0_sheets_2_size, .ref a_p0_sheets_2_cells])), (a_p0_sheets_2_cells, .inl (G 1, 40, .inl v_p0_sheets_2_cells)), (a_p0_sheets_3, .inr (7, [.int i_p0_sheets_3_lane, .int i_p0_sheets_3_size, .ref a_p0_sheets_3_cells])), (a_p0_sheets_3_cells, .inl (G 1, 40, .inl v_p0_sheets_3_cells))] → va_S A s.heap H locs → lq1 B31 n z30 = some (r, o_i_p0_latestTear) → W p l e rm_X11_read s m ([.ref a_p0, .int x1, .int x2, .int x3, .int x4] : List Value).toArray below meth c H locs 0 0 Q (F0 m 114 ls []) := by
                clear hf hl hP hD hS
                intro n
                induction n with
                | zero =>
                  intro z30 ls H locs hl hP hD hS hf
                  exact (lq1_0 hf).elim
                | succ n ih114 =>
                  intro z30 ls H locs hl hP hD hS hf
                  replace hf := lq1_s eB31 hf
                  unfold B_X11_read_114_2 at hf
                  refine lv_iload hx hb dX11_read_114 (lv_at hl 0 rfl) ?_
                  refine lv_iload hx hb dX11_read_116 (lv_at hl 1 rfl) ?_
                  refine lv_icmp_ge (tgt := 144) hx hb dX11_read_118 (by decide) (fun cc => ?_) (fun cc => ?_)
                  ·
                    replace hf := ite_t cc hf
                    clear cc
                    exact hJ28  _ _ _ (lv_sub hl [1, 2, 4] rfl) hP hD hS hf
                  ·
                    replace hf := ite_f cc hf
                    clear cc
                    refine lv_aload_n hx hb dX11_read_121 rfl (lv_at hl 4 rfl) ?_
                    refine va_get (D := D) (ci := 11) (v := .ref a_p0_kitchen) (C := RX11) (T := TX11) (N := 15) hx hb hts inX11_read_X11 hown hK hP 0 rfl rfl 4 (by decide) (hts _ mwX11_read_3) (fun _ h9 => h9) rfl dX11_read_122 ?_
                    refine lv_aload hx hb dX11_read_125 (lv_at hl 3 rfl) ?_
                    refine va_get (D := D) (ci := 7) (v := .ref a_p0_sheets_1_cells) (C := RX7) (T := TX7) (N := 3) hx hb hts inX11_read_X7 hown hK hP 4 rfl rfl 2 (by decide) (hts _ mwX11_read_5) (fun _ h9 => h9) rfl dX11_read_127 ?_
                    refine lv_iload_n hx hb dX11_read_130 rfl (lv_at hl 5 rfl) ?_
                    refine lv_iload hx hb dX11_read_131 (lv_at hl 0 rfl) ?_
                    refine lv_iadd hx hb dX11_read_133 ?_
                    have hc := ck_c hf
                    replace hf := ck_r hf
                    refine va_iald hx hb hK hP 5 1 rfl rfl (ixB_in hc) dX11_read_134 ?_
                    clear hc
                    cases hf
              exact hB31 _ _ _ _ _ (lv_sub hl [0, 1, 2, 3, 4, 5] rfl) hP hD hS hf
            have hq := lq3_i hf
            clear hf
            obtain ⟨B35, eB35, NB35, hf⟩ := hq
            have hB35 : ∀ (n : Nat) (z32 : Int32) (z33 : Int32) (z34 : Int32) (ls : Array Slot) (H : Heap) (locs : List Loc), lv_has ls 9 [(8, .int z32), (7, .int z33), (6, .int z34), (5, .ref a_p0_sheets_1), (0, .ref a_p0), (2, .int x2), (3, .int x3), (4, .int x4)] → va_P D vwCl [(a_p0, .inr (11, [.ref a_p0_rules, .ref a_p0_state, .ref a_p0_tape, .ref a_p0_reader, .ref a_p0_kitchen, .ref a_p0_luck, .ref a_p0_plans, .ref a_p0_coups, .ref a_p0_past, .ref a_p0_fairDays, .ref a_p0_images, .ref a_p0_imageHeld, .ref a_p0_sheets, .int i_p0_latestFault, .int i_p0_latestTear])), (a_p0_sheets, .inl (G 5, 4, .inr (.inr (.inr (.inr (va_up (va_up (va_up (va_up (fun _ => none) 0 (some a_p0_sheets_0)) 1 (some a_p0_sheets_1)) 2 (some a_p0_sheets_2)) 3 (some a_p0_sheets_3))))))), (a_p0_sheets_0, .inr (7, [.int i_p0_sheets_0_lane, .int i_p0_sheets_0_size, .ref a_p0_sheets_0_cells])), (a_p0_sheets_0_cells, .inl (G 1, 40, .inl v_p0_sheets_0_cells)), (a_p0_sheets_1, .inr (7, [.int i_p0_sheets_1_lane, .int i_p0_sheets_1_size, .ref a_p0_sheets_1_cells])), (a_p0_sheets_1_cells, .inl (G 1, 40, .inl v_p0_sheets_1_cells)), (a_p0_sheets_2, .inr (7, [.int i_p0_sheets_2_lane, .int i_p0_sheets_2_size, .ref a_p0_sheets_2_cells])), (a_p0_sheets_2_cells, .inl (G 1, 40, .inl v_p0_sheets_2_cells)), (a_p0_sheets_3, .inr (7, [.int i_p0_sheets_3_lane, .int i_p0_sheets_3_size, .ref a_p0_sheets_3_cells])), (a_p0_sheets_3_cells, .inl (G 1, 40, .inl v_p0_sheets_3_cells))] H → va_D A [(a_p0, .inr (11, [.ref a_p0_rules, .ref a_p0_state, .ref a_p0_tape, .ref a_p0_reader, .ref a_p0_kitchen, .ref a_p0_luck, .ref a_p0_plans, .ref a_p0_coups, .ref a_p0_past, .ref a_p0_fairDays, .ref a_p0_images, .ref a_p0_imageHeld, .ref a_p0_sheets, .int i_p0_latestFault, .int i_p0_latestTear])), (a_p0_sheets, .inl (G 5, 4, .inr (.inr (.inr (.inr (va_up (va_up (va_up (va_up (fun _ => none) 0 (some a_p0_sheets_0)) 1 (some a_p0_sheets_1)) 2 (some a_p0_sheets_2)) 3 (some a_p0_sheets_3))))))), (a_p0_sheets_0, .inr (7, [.int i_p0_sheets_0_lane, .int i_p0_sheets_0_size, .ref a_p0_sheets_0_cells])), (a_p0_sheets_0_cells, .inl (G 1, 40, .inl v_p0_sheets_0_cells)), (a_p0_sheets_1, .inr (7, [.int i_p0_sheets_1_lane, .int i_p0_sheets_1_size, .ref a_p0_sheets_1_cells])), (a_p0_sheets_1_cells, .inl (G 1, 40, .inl v_p0_sheets_1_cells)), (a_p0_sheets_2, .inr (7, [.int i_p0_sheets_2_lane, .int i_p0_sheets_2_size, .ref a_p0_sheets_2_cells])), (a_p0_sheets_2_cells, .inl (G 1, 40, .inl v_p0_sheets_2_cells)), (a_p0_sheets_3, .inr (7, [.int i_p0_sheets_3_lane, .int i_p0_sheets_3_size, .ref a_p0_sheets_3_cells])), (a_p0_sheets_3_cells, .inl (G 1, 40, .inl v_p0_sheets_3_cells))] → va_S A s.heap H locs → lq3 B35 n z32 z33 z34 = some (r, o_i_p0_latestTear) → W p l e rm_X11_read s m ([.ref a_p0, .int x1, .int x2, .int x3, .int x4] : List Value).toArray below meth c H locs 0 0 Q (F0 m 45 ls []) := by
              clear hf hl hP hD hS
              intro n
              induction n with
              | zero =>
                intro z32 z33 z34 ls H locs hl hP hD hS hf
                exact (lq3_0 hf).elim
              | succ n ih45 =>
                intro z32 z33 z34 ls H locs hl hP hD hS hf
                replace hf := lq3_s eB35 hf
                unfold B_X11_read_45_2 at hf
                refine lv_iload hx hb dX11_read_45 (lv_at hl 0 rfl) ?_
                refine lv_iload hx hb dX11_read_47 (lv_at hl 7 rfl) ?_
                refine lv_icmp_ge (tgt := 111) hx hb dX11_read_49 (by decide) (fun cc => ?_) (fun cc => ?_)
                ·
                  replace hf := ite_t cc hf
                  clear cc
                  exact hJ26 _ _ _ _ _ (lv_sub hl [1, 2, 3, 4, 6] rfl) hP hD hS hf
                ·
                  replace hf := ite_f cc hf
                  clear cc
                  refine lv_iload hx hb dX11_read_52 (lv_at hl 2 rfl) ?_
                  refine lv_if_ne (tgt := 111) hx hb dX11_read_54 (by decide) (fun cc => ?_) (fun cc => ?_)
                  ·
                    replace hf := ite_f cc hf
                    clear cc
                    exact hJ26 _ _ _ _ _ (lv_sub hl [1, 2, 3, 4, 6] rfl) hP hD hS hf
                  ·
                    replace hf := ite_t cc hf
                    clear cc
                    refine lv_aload hx hb dX11_read_57 (lv_at hl 3 rfl) ?_
                    refine lv_iload_n hx hb dX11_read_59 rfl (lv_at hl 5 rfl) ?_
                    refine lv_iload_n hx hb dX11_read_60 rfl (lv_at hl 6 rfl) ?_
                    refine lv_iload hx hb dX11_read_61 (lv_at hl 0 rfl) ?_
                    refine lv_iadd hx hb dX11_read_63 ?_
                    have hq := bd1_s hf
                    clear hf
                    obtain ⟨z36, hcall, hf⟩ := hq
                    refine gcI (ws' := [(a_p0, .inr (11, [.ref a_p0_rules, .ref a_p0_state, .ref a_p0_tape, .ref a_p0_reader, .ref a_p0_kitchen, .ref a_p0_luck, .ref a_p0_plans, .ref a_p0_coups, .ref a_p0_past, .ref a_p0_fairDays, .ref a_p0_images, .ref a_p0_imageHeld, .ref a_p0_sheets, .int i_p0_latestFault, .int i_p0_latestTear])), (a_p0_sheets, .inl (G 5, 4, .inr (.inr (.inr (.inr (va_up (va_up (va_up (va_up (fun _ => none) 0 (some a_p0_sheets_0)) 1 (some a_p0_sheets_1)) 2 (some a_p0_sheets_2)) 3 (some a_p0_sheets_3))))))), (a_p0_sheets_0, .inr (7, [.int i_p0_sheets_0_lane, .int i_p0_sheets_0_size, .ref a_p0_sheets_0_cells])), (a_p0_sheets_0_cells, .inl (G 1, 40, .inl v_p0_sheets_0_cells)), (a_p0_sheets_1, .inr (7, [.int i_p0_sheets_1_lane, .int i_p0_sheets_1_size, .ref a_p0_sheets_1_cells])), (a_p0_sheets_1_cells, .inl (G 1, 40, .inl v_p0_sheets_1_cells)), (a_p0_sheets_2, .inr (7, [.int i_p0_sheets_2_lane, .int i_p0_sheets_2_size, .ref a_p0_sheets_2_cells])), (a_p0_sheets_2_cells, .inl (G 1, 40, .inl v_p0_sheets_2_cells)), (a_p0_sheets_3, .inr (7, [.int i_p0_sheets_3_lane, .int i_p0_sheets_3_size, .ref a_p0_sheets_3_cells])), (a_p0_sheets_3_cells, .inl (G 1, 40, .inl v_p0_sheets_3_cells))]) (va_runV (As := [.int x2, .int (x3 + z32)]) (rest := []) ⟨hx, hb, hml, hown, hts⟩ (c_X7_faultAt (l := l) (D := D) (G := G) (sz := H.size) (a_p0 := a_p0_sheets_1) (a_p0_cells := a_p0_sheets_1_cells) (i_p0_lane := i_p0_sheets_1_lane) (i_p0_size := i_p0_sheets_1_size) (x1 := x2) (x2 := (x3 + z32)) (r := z36) (hf := hcall)) (cwV 2 hts gX11_read_X7_faultAt rfl rfl rfl (by decide +kernel) ⟨Nat.le_of_ble_eq_true rfl, Nat.le_of_ble_eq_true rfl⟩) (preG_V (ci := 7) (hP.sub [4] rfl) (hD.sub [4] rfl rfl) hK rfl rfl) rfl rfl hl.1 rfl (lv_room (Nat.le_of_ble_eq_true rfl)) dX11_read_64 ⟨Nat.le_of_ble_eq_true rfl, Nat.le_of_ble_eq_true rfl⟩) hP hD hS hA [4] [0, 1, 2, 3, 5, 6, 7, 8, 9] [0, 1, 2, 3, 9, 4, 5, 6, 7, 8] rfl rfl rfl (by decide) rfl rfl rfl (fun H locs hP hD hS => ?_)
                    clear hcall
                    refine lv_topi (fun z37 ez => ?_)
                    replace hf := bnd_s hf ez
                    clear ez
                    refine lv_istore (lv' := [(6, .int z37), (8, .int z32), (7, .int z33), (5, .ref a_p0_sheets_1), (0, .ref a_p0), (2, .int x2), (3, .int x3), (4, .int x4)]) hx hb dX11_read_67 hl (by decide) rfl (fun ls hl => ?_)
                    refine lv_iload hx hb dX11_read_69 (lv_at hl 0 rfl) ?_
                    refine lv_if_ne (tgt := 105) hx hb dX11_read_71 (by decide) (fun cc => ?_) (fun cc => ?_)
                    ·
                      replace hf := ite_f cc hf
                      clear cc
                      obtain ⟨z38, ez⟩ : ∃ y : Int32, y = (z32 + (1 : Int32)) := ⟨_, rfl⟩
                      replace hf := bnd_s hf ez
                      refine lv_iinc (v := z38) (lv' := [(8, .int z38), (6, .int z37), (7, .int z33), (5, .ref a_p0_sheets_1), (0, .ref a_p0), (2, .int x2), (3, .int x3), (4, .int x4)]) hx hb dX11_read_105 hl (k := 1) rfl (by rw [ez]; rfl) (by decide) rfl (fun ls hl => ?_)
                      clear ez
                      refine lv_goto (tgt := 45) hx hb dX11_read_108 (by decide) ?_
                      exact ih45 _ _ _ _ _ _ (lv_sub hl [0, 2, 1, 3, 4, 5, 6, 7] rfl) hP hD hS hf
                    ·
                      replace hf := ite_t cc hf
                      clear cc
                      refine lv_aload_n hx hb dX11_read_74 rfl (lv_at hl 4 rfl) ?_
                      refine lv_aload hx hb dX11_read_75 (lv_at hl 3 rfl) ?_
                      refine va_get (D := D) (ci := 7) (v := .ref a_p0_sheets_1_cells) (C := RX7) (T := TX7) (N := 3) hx hb hts inX11_read_X7 hown hK hP 4 rfl rfl 2 (by decide) (hts _ mwX11_read_5) (fun _ h9 => h9) rfl dX11_read_77 ?_
                      refine lv_iload_n hx hb dX11_read_80 rfl (lv_at hl 6 rfl) ?_
                      refine lv_iload hx hb dX11_read_81 (lv_at hl 1 rfl) ?_
                      refine lv_iadd hx hb dX11_read_83 ?_
                      have hc := ck_c hf
                      replace hf := ck_r hf
                      refine va_iald hx hb hK hP 5 1 rfl rfl (ixB_in hc) dX11_read_84 ?_
                      clear hc
                      refine lv_iload hx hb dX11_read_85 (lv_at hl 1 rfl) ?_
                      cases hf
            exact hB35 _ _ _ _ _ _ _ (lv_sub hl [0, 1, 2, 3, 4, 6, 7, 8] rfl) hP hD hS hf
          replace hf := ite_f cc hf
          clear cc
          rcases Decidable.em (x1 = (2 : Int32)) with cc | cc
          ·
            replace hf := ite_t cc hf
            refine W.eq (g2 := F0 m 34 ls [.ref a_p0_sheets_2]) (by rw [cc]; rfl) ?_
            clear cc
            refine lv_astore (lv' := [(5, .ref a_p0_sheets_2), (0, .ref a_p0), (1, .int x1), (2, .int x2), (3, .int x3), (4, .int x4)]) hx hb dX11_read_34 hl (by decide) rfl (fun ls hl => ?_)
            refine lv_iconst (v := (0 : Int32)) hx hb dX11_read_36 (by decide) ?_
            refine lv_topi (fun z39 ez => ?_)
            replace hf := bnd_s hf ez
            clear ez
            refine lv_istore (lv' := [(6, .int z39), (5, .ref a_p0_sheets_2), (0, .ref a_p0), (1, .int x1), (2, .int x2), (3, .int x3), (4, .int x4)]) hx hb dX11_read_37 hl (by decide) rfl (fun ls hl => ?_)
            refine lv_iconst (v := (0 : Int32)) hx hb dX11_read_39 (by decide) ?_
            refine lv_topi (fun z40 ez => ?_)
            replace hf := bnd_s hf ez
            clear ez
            refine lv_istore (lv' := [(7, .int z40), (6, .int z39), (5, .ref a_p0_sheets_2), (0, .ref a_p0), (1, .int x1), (2, .int x2), (3, .int x3), (4, .int x4)]) hx hb dX11_read_40 hl (by decide) rfl (fun ls hl => ?_)
            refine lv_iconst (v := (0 : Int32)) hx hb dX11_read_42 (by decide) ?_
            refine lv_topi (fun z41 ez => ?_)
            replace hf := bnd_s hf ez
            clear ez
            refine lv_istore (lv' := [(8, .int z41), (7, .int z40), (6, .int z39), (5, .ref a_p0_sheets_2), (0, .ref a_p0), (1, .int x1), (2, .int x2), (3, .int x3), (4, .int x4)]) hx hb dX11_read_43 hl (by decide) rfl (fun ls hl => ?_)
            have hq := jn_i hf
            clear hf
            obtain ⟨J44, eJ44, hf⟩ := hq
            have hJ44 : ∀ (z42 : Int32) (z43 : Int32) (ls : Array Slot) (H : Heap) (locs : List Loc), lv_has ls 9 [(7, .int z43), (6, .int z42), (5, .ref a_p0_sheets_2), (0, .ref a_p0), (3, .int x3)] → va_P D vwCl [(a_p0, .inr (11, [.ref a_p0_rules, .ref a_p0_state, .ref a_p0_tape, .ref a_p0_reader, .ref a_p0_kitchen, .ref a_p0_luck, .ref a_p0_plans, .ref a_p0_coups, .ref a_p0_past, .ref a_p0_fairDays, .ref a_p0_images, .ref a_p0_imageHeld, .ref a_p0_sheets, .int i_p0_latestFault, .int i_p0_latestTear])), (a_p0_sheets, .inl (G 5, 4, .inr (.inr (.inr (.inr (va_up (va_up (va_up (va_up (fun _ => none) 0 (some a_p0_sheets_0)) 1 (some a_p0_sheets_1)) 2 (some a_p0_sheets_2)) 3 (some a_p0_sheets_3))))))), (a_p0_sheets_0, .inr (7, [.int i_p0_sheets_0_lane, .int i_p0_sheets_0_size, .ref a_p0_sheets_0_cells])), (a_p0_sheets_0_cells, .inl (G 1, 40, .inl v_p0_sheets_0_cells)), (a_p0_sheets_1, .inr (7, [.int i_p0_sheets_1_lane, .int i_p0_sheets_1_size, .ref a_p0_sheets_1_cells])), (a_p0_sheets_1_cells, .inl (G 1, 40, .inl v_p0_sheets_1_cells)), (a_p0_sheets_2, .inr (7, [.int i_p0_sheets_2_lane, .int i_p0_sheets_2_size, .ref a_p0_sheets_2_cells])), (a_p0_sheets_2_cells, .inl (G 1, 40, .inl v_p0_sheets_2_cells)), (a_p0_sheets_3, .inr (7, [.int i_p0_sheets_3_lane, .int i_p0_sheets_3_size, .ref a_p0_sheets_3_cells])), (a_p0_sheets_3_cells, .inl (G 1, 40, .inl v_p0_sheets_3_cells))] H → va_D A [(a_p0, .inr (11, [.ref a_p0_rules, .ref a_p0_state, .ref a_p0_tape, .ref a_p0_reader, .ref a_p0_kitchen, .ref a_p0_luck, .ref a_p0_plans, .ref a_p0_coups, .ref a_p0_past, .ref a_p0_fairDays, .ref a_p0_images, .ref a_p0_imageHeld, .ref a_p0_sheets, .int i_p0_latestFault, .int i_p0_latestTear])), (a_p0_sheets, .inl (G 5, 4, .inr (.inr (.inr (.inr (va_up (va_up (va_up (va_up (fun _ => none) 0 (some a_p0_sheets_0)) 1 (some a_p0_sheets_1)) 2 (some a_p0_sheets_2)) 3 (some a_p0_sheets_3))))))), (a_p0_sheets_0, .inr (7, [.int i_p0_sheets_0_lane, .int i_p0_sheets_0_size, .ref a_p0_sheets_0_cells])), (a_p0_sheets_0_cells, .inl (G 1, 40, .inl v_p0_sheets_0_cells)), (a_p0_sheets_1, .inr (7, [.int i_p0_sheets_1_lane, .int i_p0_sheets_1_size, .ref a_p0_sheets_1_cells])), (a_p0_sheets_1_cells, .inl (G 1, 40, .inl v_p0_sheets_1_cells)), (a_p0_sheets_2, .inr (7, [.int i_p0_sheets_2_lane, .int i_p0_sheets_2_size, .ref a_p0_sheets_2_cells])), (a_p0_sheets_2_cells, .inl (G 1, 40, .inl v_p0_sheets_2_cells)), (a_p0_sheets_3, .inr (7, [.int i_p0_sheets_3_lane, .int i_p0_sheets_3_size, .ref a_p0_sheets_3_cells])), (a_p0_sheets_3_cells, .inl (G 1, 40, .inl v_p0_sheets_3_cells))] → va_S A s.heap H locs → J44 z42 z43 = some (r, o_i_p0_latestTear) → W p l e rm_X11_read s m ([.ref a_p0, .int x1, .int x2, .int x3, .int x4] : List Value).toArray below meth c H locs 0 0 Q (F0 m 111 ls []) := by
              clear hf hl hP hD hS
              intro z42 z43 ls H locs hl hP hD hS hf
              replace hf := jn2_s eJ44 hf
              refine lv_iconst (v := (0 : Int32)) hx hb dX11_read_111 (by decide) ?_
              refine lv_topi (fun z45 ez => ?_)
              replace hf := bnd_s hf ez
              clear ez
              refine lv_istore (lv' := [(8, .int z45), (7, .int z43), (6, .int z42), (5, .ref a_p0_sheets_2), (0, .ref a_p0), (3, .int x3)]) hx hb dX11_read_112 hl (by decide) rfl (fun ls hl => ?_)
              have hq := jn_i hf
              clear hf
              obtain ⟨J46, eJ46, hf⟩ := hq
              have hJ46 : ∀  (ls : Array Slot) (H : Heap) (locs : List Loc), lv_has ls 9 [(7, .int z43), (6, .int z42), (0, .ref a_p0)] → va_P D vwCl [(a_p0, .inr (11, [.ref a_p0_rules, .ref a_p0_state, .ref a_p0_tape, .ref a_p0_reader, .ref a_p0_kitchen, .ref a_p0_luck, .ref a_p0_plans, .ref a_p0_coups, .ref a_p0_past, .ref a_p0_fairDays, .ref a_p0_images, .ref a_p0_imageHeld, .ref a_p0_sheets, .int i_p0_latestFault, .int i_p0_latestTear])), (a_p0_sheets, .inl (G 5, 4, .inr (.inr (.inr (.inr (va_up (va_up (va_up (va_up (fun _ => none) 0 (some a_p0_sheets_0)) 1 (some a_p0_sheets_1)) 2 (some a_p0_sheets_2)) 3 (some a_p0_sheets_3))))))), (a_p0_sheets_0, .inr (7, [.int i_p0_sheets_0_lane, .int i_p0_sheets_0_size, .ref a_p0_sheets_0_cells])), (a_p0_sheets_0_cells, .inl (G 1, 40, .inl v_p0_sheets_0_cells)), (a_p0_sheets_1, .inr (7, [.int i_p0_sheets_1_lane, .int i_p0_sheets_1_size, .ref a_p0_sheets_1_cells])), (a_p0_sheets_1_cells, .inl (G 1, 40, .inl v_p0_sheets_1_cells)), (a_p0_sheets_2, .inr (7, [.int i_p0_sheets_2_lane, .int i_p0_sheets_2_size, .ref a_p0_sheets_2_cells])), (a_p0_sheets_2_cells, .inl (G 1, 40, .inl v_p0_sheets_2_cells)), (a_p0_sheets_3, .inr (7, [.int i_p0_sheets_3_lane, .int i_p0_sheets_3_size, .ref a_p0_sheets_3_cells])), (a_p0_sheets_3_cells, .inl (G 1, 40, .inl v_p0_sheets_3_cells))] H → va_D A [(a_p0, .inr (11, [.ref a_p0_rules, .ref a_p0_state, .ref a_p0_tape, .ref a_p0_reader, .ref a_p0_kitchen, .ref a_p0_luck, .ref a_p0_plans, .ref a_p0_coups, .ref a_p0_past, .ref a_p0_fairDays, .ref a_p0_images, .ref a_p0_imageHeld, .ref a_p0_sheets, .int i_p0_latestFault, .int i_p0_latestTear])), (a_p0_sheets, .inl (G 5, 4, .inr (.inr (.inr (.inr (va_up (va_up (va_up (va_up (fun _ => none) 0 (some a_p0_sheets_0)) 1 (some a_p0_sheets_1)) 2 (some a_p0_sheets_2)) 3 (some a_p0_sheets_3))))))), (a_p0_sheets_0, .inr (7, [.int i_p0_sheets_0_lane, .int i_p0_sheets_0_size, .ref a_p0_sheets_0_cells])), (a_p0_sheets_0_cells, .inl (G 1, 40, .inl v_p0_sheets_0_cells)), (a_p0_sheets_1, .inr (7, [.int i_p0_sheets_1_lane, .int i_p0_sheets_1_size, .ref a_p0_sheets_1_cells])), (a_p0_sheets_1_cells, .inl (G 1, 40, .inl v_p0_sheets_1_cells)), (a_p0_sheets_2, .inr (7, [.int i_p0_sheets_2_lane, .int i_p0_sheets_2_size, .ref a_p0_sheets_2_cells])), (a_p0_sheets_2_cells, .inl (G 1, 40, .inl v_p0_sheets_2_cells)), (a_p0_sheets_3, .inr (7, [.int i_p0_sheets_3_lane, .int i_p0_sheets_3_size, .ref a_p0_sheets_3_cells])), (a_p0_sheets_3_cells, .inl (G 1, 40, .inl v_p0_sheets_3_cells))] → va_S A s.heap H locs → J46  = some (r, o_i_p0_latestTear) → W p l e rm_X11_read s m ([.ref a_p0, .int x1, .int x2, .int x3, .int x4] : List Value).toArray below meth c H locs 0 0 Q (F0 m 144 ls []) := by
                clear hf hl hP hD hS
                intro  ls H locs hl hP hD hS hf
                replace hf := jn0_s eJ46 hf
                refine lv_aload_n hx hb dX11_read_144 rfl (lv_at hl 2 rfl) ?_
                refine lv_iload hx hb dX11_read_145 (lv_at hl 1 rfl) ?_
                refine lv_topi (fun z47 ez => ?_)
                replace hf := bnd_s hf ez
                clear ez
                refine va_put (D := D) (ci := 11) (v := .int z47) (ty := .int) (C := RX11) (T := TX11) (N := 15) hx hb hts inX11_read_X11 tyX11 tyX11_ok nmX11 hown hK hP hD hS 0 rfl rfl 14 (by decide) (hts _ mwX11_read_2) (fun _ h9 => h9) rfl (by decide +kernel) rfl rfl (Nat.le_of_ble_eq_true rfl) dX11_read_147 (fun H locs hP hD hS => ?_)
                have hP : va_P D vwCl [(a_p0, .inr (11, [.ref a_p0_rules, .ref a_p0_state, .ref a_p0_tape, .ref a_p0_reader, .ref a_p0_kitchen, .ref a_p0_luck, .ref a_p0_plans, .ref a_p0_coups, .ref a_p0_past, .ref a_p0_fairDays, .ref a_p0_images, .ref a_p0_imageHeld, .ref a_p0_sheets, .int i_p0_latestFault, .int z47])), (a_p0_sheets, .inl (G 5, 4, .inr (.inr (.inr (.inr (va_up (va_up (va_up (va_up (fun _ => none) 0 (some a_p0_sheets_0)) 1 (some a_p0_sheets_1)) 2 (some a_p0_sheets_2)) 3 (some a_p0_sheets_3))))))), (a_p0_sheets_0, .inr (7, [.int i_p0_sheets_0_lane, .int i_p0_sheets_0_size, .ref a_p0_sheets_0_cells])), (a_p0_sheets_0_cells, .inl (G 1, 40, .inl v_p0_sheets_0_cells)), (a_p0_sheets_1, .inr (7, [.int i_p0_sheets_1_lane, .int i_p0_sheets_1_size, .ref a_p0_sheets_1_cells])), (a_p0_sheets_1_cells, .inl (G 1, 40, .inl v_p0_sheets_1_cells)), (a_p0_sheets_2, .inr (7, [.int i_p0_sheets_2_lane, .int i_p0_sheets_2_size, .ref a_p0_sheets_2_cells])), (a_p0_sheets_2_cells, .inl (G 1, 40, .inl v_p0_sheets_2_cells)), (a_p0_sheets_3, .inr (7, [.int i_p0_sheets_3_lane, .int i_p0_sheets_3_size, .ref a_p0_sheets_3_cells])), (a_p0_sheets_3_cells, .inl (G 1, 40, .inl v_p0_sheets_3_cells))] H := hP
                have hD : va_D A [(a_p0, .inr (11, [.ref a_p0_rules, .ref a_p0_state, .ref a_p0_tape, .ref a_p0_reader, .ref a_p0_kitchen, .ref a_p0_luck, .ref a_p0_plans, .ref a_p0_coups, .ref a_p0_past, .ref a_p0_fairDays, .ref a_p0_images, .ref a_p0_imageHeld, .ref a_p0_sheets, .int i_p0_latestFault, .int z47])), (a_p0_sheets, .inl (G 5, 4, .inr (.inr (.inr (.inr (va_up (va_up (va_up (va_up (fun _ => none) 0 (some a_p0_sheets_0)) 1 (some a_p0_sheets_1)) 2 (some a_p0_sheets_2)) 3 (some a_p0_sheets_3))))))), (a_p0_sheets_0, .inr (7, [.int i_p0_sheets_0_lane, .int i_p0_sheets_0_size, .ref a_p0_sheets_0_cells])), (a_p0_sheets_0_cells, .inl (G 1, 40, .inl v_p0_sheets_0_cells)), (a_p0_sheets_1, .inr (7, [.int i_p0_sheets_1_lane, .int i_p0_sheets_1_size, .ref a_p0_sheets_1_cells])), (a_p0_sheets_1_cells, .inl (G 1, 40, .inl v_p0_sheets_1_cells)), (a_p0_sheets_2, .inr (7, [.int i_p0_sheets_2_lane, .int i_p0_sheets_2_size, .ref a_p0_sheets_2_cells])), (a_p0_sheets_2_cells, .inl (G 1, 40, .inl v_p0_sheets_2_cells)), (a_p0_sheets_3, .inr (7, [.int i_p0_sheets_3_lane, .int i_p0_sheets_3_size, .ref a_p0_sheets_3_cells])), (a_p0_sheets_3_cells, .inl (G 1, 40, .inl v_p0_sheets_3_cells))] := hD
                refine lv_iload hx hb dX11_read_150 (lv_at hl 0 rfl) ?_
                obtain ⟨rfl, rfl⟩ := ou2 hf
                rw [hQ]
                exact W.iret hx hb hr (fun t ht hW => ⟨⟨_, (), rfl, rfl, by rw [ht]; exact hP, va_K.moved hW.alike hK, hD⟩, hS.F ht⟩) hS.2.2 dX11_read_152
              have hq := lq1_i hf
              clear hf
              obtain ⟨B49, eB49, NB49, hf⟩ := hq
              have hB49 : ∀ (n : Nat) (z48 : Int32) (ls : Array Slot) (H : Heap) (locs : List Loc), lv_has ls 9 [(8, .int z48), (7, .int z43), (6, .int z42), (5, .ref a_p0_sheets_2), (0, .ref a_p0), (3, .int x3)] → va_P D vwCl [(a_p0, .inr (11, [.ref a_p0_rules, .ref a_p0_state, .ref a_p0_tape, .ref a_p0_reader, .ref a_p0_kitchen, .ref a_p0_luck, .ref a_p0_plans, .ref a_p0_coups, .ref a_p0_past, .ref a_p0_fairDays, .ref a_p0_images, .ref a_p0_imageHeld, .ref a_p0_sheets, .int i_p0_latestFault, .int i_p0_latestTear])), (a_p0_sheets, .inl (G 5, 4, .inr (.inr (.inr (.inr (va_up (va_up (va_up (va_up (fun _ => none) 0 (some a_p0_sheets_0)) 1 (some a_p0_sheets_1)) 2 (some a_p0_sheets_2)) 3 (some a_p0_sheets_3))))))), (a_p0_sheets_0, .inr (7, [.int i_p0_sheets_0_lane, .int i_p0_sheets_0_size, .ref a_p0_sheets_0_cells])), (a_p0_sheets_0_cells, .inl (G 1, 40, .inl v_p0_sheets_0_cells)), (a_p0_sheets_1, .inr (7, [.int i_p0_sheets_1_lane, .int i_p0_sheets_1_size, .ref a_p0_sheets_1_cells])), (a_p0_sheets_1_cells, .inl (G 1, 40, .inl v_p0_sheets_1_cells)), (a_p0_sheets_2, .inr (7, [.int i_p0_sheets_2_lane, .int i_p0_sheets_2_size, .ref a_p0_sheets_2_cells])), (a_p0_sheets_2_cells, .inl (G 1, 40, .inl v_p0_sheets_2_cells)), (a_p0_sheets_3, .inr (7, [.int i_p0_sheets_3_lane, .int i_p0_sheets_3_size, .ref a_p0_sheets_3_cells])), (a_p0_sheets_3_cells, .inl (G 1, 40, .inl v_p0_sheets_3_cells))] H → va_D A [(a_p0, .inr (11, [.ref a_p0_rules, .ref a_p0_state, .ref a_p0_tape, .ref a_p0_reader, .ref a_p0_kitchen, .ref a_p0_luck, .ref a_p0_plans, .ref a_p0_coups, .ref a_p0_past, .ref a_p0_fairDays, .ref a_p0_images, .ref a_p0_imageHeld, .ref a_p0_sheets, .int i_p0_latestFault, .int i_p0_latestTear])), (a_p0_sheets, .inl (G 5, 4, .inr (.inr (.inr (.inr (va_up (va_up (va_up (va_up (fun _ => none) 0 (some a_p0_sheets_0)) 1 (some a_p0_sheets_1)) 2 (some a_p0_sheets_2)) 3 (some a_p0_sheets_3))))))), (a_p0_sheets_0, .inr (7, [.int i_p0_sheets_0_lane, .int i_p0_sheets_0_size, .ref a_p0_sheets_0_cells])), (a_p0_sheets_0_cells, .inl (G 1, 40, .inl v_p0_sheets_0_cells)), (a_p0_sheets_1, .inr (7, [.int i_p0_sheets_1_lane, .int i_p0_sheets_1_size, .ref a_p0_sheets_1_cells])), (a_p0_sheets_1_cells, .inl (G 1, 40, .inl v_p0_sheets_1_cells)), (a_p0_sheets_2, .inr (7, [.int i_p0_sheets_2_lane, .int i_p0_sheets_2_size, .ref a_p0_sheets_2_cells])), (a_p0_sheets_2_cells, .inl (G 1, 40, .inl v_p0_sheets_2_cells)), (a_p0_sheets_3, .inr (7, [.int i_p0_sheets_3_lane, .int i_p0_sheets_3_size, .ref a_p0_sheets_3_cells])), (a_p0_sheets_3_cells, .inl (G 1, 40, .inl v_p0_sheets_3_cells))] → va_S A s.heap H locs → lq1 B49 n z48 = some (r, o_i_p0_latestTear) → W p l e rm_X11_read s m ([.ref a_p0, .int x1, .int x2, .int x3, .int x4] : List Value).toArray below meth c H locs 0 0 Q (F0 m 114 ls []) := by
                clear hf hl hP hD hS
                intro n
                induction n with
                | zero =>
                  intro z48 ls H locs hl hP hD hS hf
                  exact (lq1_0 hf).elim
                | succ n ih114 =>
                  intro z48 ls H locs hl hP hD hS hf
                  replace hf := lq1_s eB49 hf
                  unfold B_X11_read_114_3 at hf
                  refine lv_iload hx hb dX11_read_114 (lv_at hl 0 rfl) ?_
                  refine lv_iload hx hb dX11_read_116 (lv_at hl 1 rfl) ?_
                  refine lv_icmp_ge (tgt := 144) hx hb dX11_read_118 (by decide) (fun cc => ?_) (fun cc => ?_)
                  ·
                    replace hf := ite_t cc hf
                    clear cc
                    exact hJ46  _ _ _ (lv_sub hl [1, 2, 4] rfl) hP hD hS hf
                  ·
                    replace hf := ite_f cc hf
                    clear cc
                    refine lv_aload_n hx hb dX11_read_121 rfl (lv_at hl 4 rfl) ?_
                    refine va_get (D := D) (ci := 11) (v := .ref a_p0_kitchen) (C := RX11) (T := TX11) (N := 15) hx hb hts inX11_read_X11 hown hK hP 0 rfl rfl 4 (by decide) (hts _ mwX11_read_3) (fun _ h9 => h9) rfl dX11_read_122 ?_
                    refine lv_aload hx hb dX11_read_125 (lv_at hl 3 rfl) ?_
                    refine va_get (D := D) (ci := 7) (v := .ref a_p0_sheets_2_cells) (C := RX7) (T := TX7) (N := 3) hx hb hts inX11_read_X7 hown hK hP 6 rfl rfl 2 (by decide) (hts _ mwX11_read_5) (fun _ h9 => h9) rfl dX11_read_127 ?_
                    refine lv_iload_n hx hb dX11_read_130 rfl (lv_at hl 5 rfl) ?_
                    refine lv_iload hx hb dX11_read_131 (lv_at hl 0 rfl) ?_
                    refine lv_iadd hx hb dX11_read_133 ?_
                    have hc := ck_c hf
                    replace hf := ck_r hf
                    refine va_iald hx hb hK hP 7 1 rfl rfl (ixB_in hc) dX11_read_134 ?_
                    clear hc
                    cases hf
              exact hB49 _ _ _ _ _ (lv_sub hl [0, 1, 2, 3, 4, 5] rfl) hP hD hS hf
            have hq := lq3_i hf
            clear hf
            obtain ⟨B53, eB53, NB53, hf⟩ := hq
            have hB53 : ∀ (n : Nat) (z50 : Int32) (z51 : Int32) (z52 : Int32) (ls : Array Slot) (H : Heap) (locs : List Loc), lv_has ls 9 [(8, .int z50), (7, .int z51), (6, .int z52), (5, .ref a_p0_sheets_2), (0, .ref a_p0), (2, .int x2), (3, .int x3), (4, .int x4)] → va_P D vwCl [(a_p0, .inr (11, [.ref a_p0_rules, .ref a_p0_state, .ref a_p0_tape, .ref a_p0_reader, .ref a_p0_kitchen, .ref a_p0_luck, .ref a_p0_plans, .ref a_p0_coups, .ref a_p0_past, .ref a_p0_fairDays, .ref a_p0_images, .ref a_p0_imageHeld, .ref a_p0_sheets, .int i_p0_latestFault, .int i_p0_latestTear])), (a_p0_sheets, .inl (G 5, 4, .inr (.inr (.inr (.inr (va_up (va_up (va_up (va_up (fun _ => none) 0 (some a_p0_sheets_0)) 1 (some a_p0_sheets_1)) 2 (some a_p0_sheets_2)) 3 (some a_p0_sheets_3))))))), (a_p0_sheets_0, .inr (7, [.int i_p0_sheets_0_lane, .int i_p0_sheets_0_size, .ref a_p0_sheets_0_cells])), (a_p0_sheets_0_cells, .inl (G 1, 40, .inl v_p0_sheets_0_cells)), (a_p0_sheets_1, .inr (7, [.int i_p0_sheets_1_lane, .int i_p0_sheets_1_size, .ref a_p0_sheets_1_cells])), (a_p0_sheets_1_cells, .inl (G 1, 40, .inl v_p0_sheets_1_cells)), (a_p0_sheets_2, .inr (7, [.int i_p0_sheets_2_lane, .int i_p0_sheets_2_size, .ref a_p0_sheets_2_cells])), (a_p0_sheets_2_cells, .inl (G 1, 40, .inl v_p0_sheets_2_cells)), (a_p0_sheets_3, .inr (7, [.int i_p0_sheets_3_lane, .int i_p0_sheets_3_size, .ref a_p0_sheets_3_cells])), (a_p0_sheets_3_cells, .inl (G 1, 40, .inl v_p0_sheets_3_cells))] H → va_D A [(a_p0, .inr (11, [.ref a_p0_rules, .ref a_p0_state, .ref a_p0_tape, .ref a_p0_reader, .ref a_p0_kitchen, .ref a_p0_luck, .ref a_p0_plans, .ref a_p0_coups, .ref a_p0_past, .ref a_p0_fairDays, .ref a_p0_images, .ref a_p0_imageHeld, .ref a_p0_sheets, .int i_p0_latestFault, .int i_p0_latestTear])), (a_p0_sheets, .inl (G 5, 4, .inr (.inr (.inr (.inr (va_up (va_up (va_up (va_up (fun _ => none) 0 (some a_p0_sheets_0)) 1 (some a_p0_sheets_1)) 2 (some a_p0_sheets_2)) 3 (some a_p0_sheets_3))))))), (a_p0_sheets_0, .inr (7, [.int i_p0_sheets_0_lane, .int i_p0_sheets_0_size, .ref a_p0_sheets_0_cells])), (a_p0_sheets_0_cells, .inl (G 1, 40, .inl v_p0_sheets_0_cells)), (a_p0_sheets_1, .inr (7, [.int i_p0_sheets_1_lane, .int i_p0_sheets_1_size, .ref a_p0_sheets_1_cells])), (a_p0_sheets_1_cells, .inl (G 1, 40, .inl v_p0_sheets_1_cells)), (a_p0_sheets_2, .inr (7, [.int i_p0_sheets_2_lane, .int i_p0_sheets_2_size, .ref a_p0_sheets_2_cells])), (a_p0_sheets_2_cells, .inl (G 1, 40, .inl v_p0_sheets_2_cells)), (a_p0_sheets_3, .inr (7, [.int i_p0_sheets_3_lane, .int i_p0_sheets_3_size, .ref a_p0_sheets_3_cells])), (a_p0_sheets_3_cells, .inl (G 1, 40, .inl v_p0_sheets_3_cells))] → va_S A s.heap H locs → lq3 B53 n z50 z51 z52 = some (r, o_i_p0_latestTear) → W p l e rm_X11_read s m ([.ref a_p0, .int x1, .int x2, .int x3, .int x4] : List Value).toArray below meth c H locs 0 0 Q (F0 m 45 ls []) := by
              clear hf hl hP hD hS
              intro n
              induction n with
              | zero =>
                intro z50 z51 z52 ls H locs hl hP hD hS hf
                exact (lq3_0 hf).elim
              | succ n ih45 =>
                intro z50 z51 z52 ls H locs hl hP hD hS hf
                replace hf := lq3_s eB53 hf
                unfold B_X11_read_45_3 at hf
                refine lv_iload hx hb dX11_read_45 (lv_at hl 0 rfl) ?_
                refine lv_iload hx hb dX11_read_47 (lv_at hl 7 rfl) ?_
                refine lv_icmp_ge (tgt := 111) hx hb dX11_read_49 (by decide) (fun cc => ?_) (fun cc => ?_)
                ·
                  replace hf := ite_t cc hf
                  clear cc
                  exact hJ44 _ _ _ _ _ (lv_sub hl [1, 2, 3, 4, 6] rfl) hP hD hS hf
                ·
                  replace hf := ite_f cc hf
                  clear cc
                  refine lv_iload hx hb dX11_read_52 (lv_at hl 2 rfl) ?_
                  refine lv_if_ne (tgt := 111) hx hb dX11_read_54 (by decide) (fun cc => ?_) (fun cc => ?_)
                  ·
                    replace hf := ite_f cc hf
                    clear cc
                    exact hJ44 _ _ _ _ _ (lv_sub hl [1, 2, 3, 4, 6] rfl) hP hD hS hf
                  ·
                    replace hf := ite_t cc hf
                    clear cc
                    refine lv_aload hx hb dX11_read_57 (lv_at hl 3 rfl) ?_
                    refine lv_iload_n hx hb dX11_read_59 rfl (lv_at hl 5 rfl) ?_
                    refine lv_iload_n hx hb dX11_read_60 rfl (lv_at hl 6 rfl) ?_
                    refine lv_iload hx hb dX11_read_61 (lv_at hl 0 rfl) ?_
                    refine lv_iadd hx hb dX11_read_63 ?_
                    have hq := bd1_s hf
                    clear hf
                    obtain ⟨z54, hcall, hf⟩ := hq
                    refine gcI (ws' := [(a_p0, .inr (11, [.ref a_p0_rules, .ref a_p0_state, .ref a_p0_tape, .ref a_p0_reader, .ref a_p0_kitchen, .ref a_p0_luck, .ref a_p0_plans, .ref a_p0_coups, .ref a_p0_past, .ref a_p0_fairDays, .ref a_p0_images, .ref a_p0_imageHeld, .ref a_p0_sheets, .int i_p0_latestFault, .int i_p0_latestTear])), (a_p0_sheets, .inl (G 5, 4, .inr (.inr (.inr (.inr (va_up (va_up (va_up (va_up (fun _ => none) 0 (some a_p0_sheets_0)) 1 (some a_p0_sheets_1)) 2 (some a_p0_sheets_2)) 3 (some a_p0_sheets_3))))))), (a_p0_sheets_0, .inr (7, [.int i_p0_sheets_0_lane, .int i_p0_sheets_0_size, .ref a_p0_sheets_0_cells])), (a_p0_sheets_0_cells, .inl (G 1, 40, .inl v_p0_sheets_0_cells)), (a_p0_sheets_1, .inr (7, [.int i_p0_sheets_1_lane, .int i_p0_sheets_1_size, .ref a_p0_sheets_1_cells])), (a_p0_sheets_1_cells, .inl (G 1, 40, .inl v_p0_sheets_1_cells)), (a_p0_sheets_2, .inr (7, [.int i_p0_sheets_2_lane, .int i_p0_sheets_2_size, .ref a_p0_sheets_2_cells])), (a_p0_sheets_2_cells, .inl (G 1, 40, .inl v_p0_sheets_2_cells)), (a_p0_sheets_3, .inr (7, [.int i_p0_sheets_3_lane, .int i_p0_sheets_3_size, .ref a_p0_sheets_3_cells])), (a_p0_sheets_3_cells, .inl (G 1, 40, .inl v_p0_sheets_3_cells))]) (va_runV (As := [.int x2, .int (x3 + z50)]) (rest := []) ⟨hx, hb, hml, hown, hts⟩ (c_X7_faultAt (l := l) (D := D) (G := G) (sz := H.size) (a_p0 := a_p0_sheets_2) (a_p0_cells := a_p0_sheets_2_cells) (i_p0_lane := i_p0_sheets_2_lane) (i_p0_size := i_p0_sheets_2_size) (x1 := x2) (x2 := (x3 + z50)) (r := z54) (hf := hcall)) (cwV 2 hts gX11_read_X7_faultAt rfl rfl rfl (by decide +kernel) ⟨Nat.le_of_ble_eq_true rfl, Nat.le_of_ble_eq_true rfl⟩) (preG_V (ci := 7) (hP.sub [6] rfl) (hD.sub [6] rfl rfl) hK rfl rfl) rfl rfl hl.1 rfl (lv_room (Nat.le_of_ble_eq_true rfl)) dX11_read_64 ⟨Nat.le_of_ble_eq_true rfl, Nat.le_of_ble_eq_true rfl⟩) hP hD hS hA [6] [0, 1, 2, 3, 4, 5, 7, 8, 9] [0, 1, 2, 3, 4, 5, 9, 6, 7, 8] rfl rfl rfl (by decide) rfl rfl rfl (fun H locs hP hD hS => ?_)
                    clear hcall
                    refine lv_topi (fun z55 ez => ?_)
                    replace hf := bnd_s hf ez
                    clear ez
                    refine lv_istore (lv' := [(6, .int z55), (8, .int z50), (7, .int z51), (5, .ref a_p0_sheets_2), (0, .ref a_p0), (2, .int x2), (3, .int x3), (4, .int x4)]) hx hb dX11_read_67 hl (by decide) rfl (fun ls hl => ?_)
                    refine lv_iload hx hb dX11_read_69 (lv_at hl 0 rfl) ?_
                    refine lv_if_ne (tgt := 105) hx hb dX11_read_71 (by decide) (fun cc => ?_) (fun cc => ?_)
                    ·
                      replace hf := ite_f cc hf
                      clear cc
                      obtain ⟨z56, ez⟩ : ∃ y : Int32, y = (z50 + (1 : Int32)) := ⟨_, rfl⟩
                      replace hf := bnd_s hf ez
                      refine lv_iinc (v := z56) (lv' := [(8, .int z56), (6, .int z55), (7, .int z51), (5, .ref a_p0_sheets_2), (0, .ref a_p0), (2, .int x2), (3, .int x3), (4, .int x4)]) hx hb dX11_read_105 hl (k := 1) rfl (by rw [ez]; rfl) (by decide) rfl (fun ls hl => ?_)
                      clear ez
                      refine lv_goto (tgt := 45) hx hb dX11_read_108 (by decide) ?_
                      exact ih45 _ _ _ _ _ _ (lv_sub hl [0, 2, 1, 3, 4, 5, 6, 7] rfl) hP hD hS hf
                    ·
                      replace hf := ite_t cc hf
                      clear cc
                      refine lv_aload_n hx hb dX11_read_74 rfl (lv_at hl 4 rfl) ?_
                      refine lv_aload hx hb dX11_read_75 (lv_at hl 3 rfl) ?_
                      refine va_get (D := D) (ci := 7) (v := .ref a_p0_sheets_2_cells) (C := RX7) (T := TX7) (N := 3) hx hb hts inX11_read_X7 hown hK hP 6 rfl rfl 2 (by decide) (hts _ mwX11_read_5) (fun _ h9 => h9) rfl dX11_read_77 ?_
                      refine lv_iload_n hx hb dX11_read_80 rfl (lv_at hl 6 rfl) ?_
                      refine lv_iload hx hb dX11_read_81 (lv_at hl 1 rfl) ?_
                      refine lv_iadd hx hb dX11_read_83 ?_
                      have hc := ck_c hf
                      replace hf := ck_r hf
                      refine va_iald hx hb hK hP 7 1 rfl rfl (ixB_in hc) dX11_read_84 ?_
                      clear hc
                      refine lv_iload hx hb dX11_read_85 (lv_at hl 1 rfl) ?_
                      cases hf
            exact hB53 _ _ _ _ _ _ _ (lv_sub hl [0, 1, 2, 3, 4, 6, 7, 8] rfl) hP hD hS hf
          replace hf := ite_f cc hf
          clear cc
          rcases Decidable.em (x1 = (3 : Int32)) with cc | cc
          ·
            replace hf := ite_t cc hf
            refine W.eq (g2 := F0 m 34 ls [.ref a_p0_sheets_3]) (by rw [cc]; rfl) ?_
            clear cc
            refine lv_astore (lv' := [(5, .ref a_p0_sheets_3), (0, .ref a_p0), (1, .int x1), (2, .int x2), (3, .int x3), (4, .int x4)]) hx hb dX11_read_34 hl (by decide) rfl (fun ls hl => ?_)
            refine lv_iconst (v := (0 : Int32)) hx hb dX11_read_36 (by decide) ?_
            refine lv_topi (fun z57 ez => ?_)
            replace hf := bnd_s hf ez
            clear ez
            refine lv_istore (lv' := [(6, .int z57), (5, .ref a_p0_sheets_3), (0, .ref a_p0), (1, .int x1), (2, .int x2), (3, .int x3), (4, .int x4)]) hx hb dX11_read_37 hl (by decide) rfl (fun ls hl => ?_)
            refine lv_iconst (v := (0 : Int32)) hx hb dX11_read_39 (by decide) ?_
            refine lv_topi (fun z58 ez => ?_)
            replace hf := bnd_s hf ez
            clear ez
            refine lv_istore (lv' := [(7, .int z58), (6, .int z57), (5, .ref a_p0_sheets_3), (0, .ref a_p0), (1, .int x1), (2, .int x2), (3, .int x3), (4, .int x4)]) hx hb dX11_read_40 hl (by decide) rfl (fun ls hl => ?_)
            refine lv_iconst (v := (0 : Int32)) hx hb dX11_read_42 (by decide) ?_
            refine lv_topi (fun z59 ez => ?_)
            replace hf := bnd_s hf ez
            clear ez
            refine lv_istore (lv' := [(8, .int z59), (7, .int z58), (6, .int z57), (5, .ref a_p0_sheets_3), (0, .ref a_p0), (1, .int x1), (2, .int x2), (3, .int x3), (4, .int x4)]) hx hb dX11_read_43 hl (by decide) rfl (fun ls hl => ?_)
            have hq := jn_i hf
            clear hf
            obtain ⟨J62, eJ62, hf⟩ := hq
            have hJ62 : ∀ (z60 : Int32) (z61 : Int32) (ls : Array Slot) (H : Heap) (locs : List Loc), lv_has ls 9 [(7, .int z61), (6, .int z60), (5, .ref a_p0_sheets_3), (0, .ref a_p0), (3, .int x3)] → va_P D vwCl [(a_p0, .inr (11, [.ref a_p0_rules, .ref a_p0_state, .ref a_p0_tape, .ref a_p0_reader, .ref a_p0_kitchen, .ref a_p0_luck, .ref a_p0_plans, .ref a_p0_coups, .ref a_p0_past, .ref a_p0_fairDays, .ref a_p0_images, .ref a_p0_imageHeld, .ref a_p0_sheets, .int i_p0_latestFault, .int i_p0_latestTear])), (a_p0_sheets, .inl (G 5, 4, .inr (.inr (.inr (.inr (va_up (va_up (va_up (va_up (fun _ => none) 0 (some a_p0_sheets_0)) 1 (some a_p0_sheets_1)) 2 (some a_p0_sheets_2)) 3 (some a_p0_sheets_3))))))), (a_p0_sheets_0, .inr (7, [.int i_p0_sheets_0_lane, .int i_p0_sheets_0_size, .ref a_p0_sheets_0_cells])), (a_p0_sheets_0_cells, .inl (G 1, 40, .inl v_p0_sheets_0_cells)), (a_p0_sheets_1, .inr (7, [.int i_p0_sheets_1_lane, .int i_p0_sheets_1_size, .ref a_p0_sheets_1_cells])), (a_p0_sheets_1_cells, .inl (G 1, 40, .inl v_p0_sheets_1_cells)), (a_p0_sheets_2, .inr (7, [.int i_p0_sheets_2_lane, .int i_p0_sheets_2_size, .ref a_p0_sheets_2_cells])), (a_p0_sheets_2_cells, .inl (G 1, 40, .inl v_p0_sheets_2_cells)), (a_p0_sheets_3, .inr (7, [.int i_p0_sheets_3_lane, .int i_p0_sheets_3_size, .ref a_p0_sheets_3_cells])), (a_p0_sheets_3_cells, .inl (G 1, 40, .inl v_p0_sheets_3_cells))] H → va_D A [(a_p0, .inr (11, [.ref a_p0_rules, .ref a_p0_state, .ref a_p0_tape, .ref a_p0_reader, .ref a_p0_kitchen, .ref a_p0_luck, .ref a_p0_plans, .ref a_p0_coups, .ref a_p0_past, .ref a_p0_fairDays, .ref a_p0_images, .ref a_p0_imageHeld, .ref a_p0_sheets, .int i_p0_latestFault, .int i_p0_latestTear])), (a_p0_sheets, .inl (G 5, 4, .inr (.inr (.inr (.inr (va_up (va_up (va_up (va_up (fun _ => none) 0 (some a_p0_sheets_0)) 1 (some a_p0_sheets_1)) 2 (some a_p0_sheets_2)) 3 (some a_p0_sheets_3))))))), (a_p0_sheets_0, .inr (7, [.int i_p0_sheets_0_lane, .int i_p0_sheets_0_size, .ref a_p0_sheets_0_cells])), (a_p0_sheets_0_cells, .inl (G 1, 40, .inl v_p0_sheets_0_cells)), (a_p0_sheets_1, .inr (7, [.int i_p0_sheets_1_lane, .int i_p0_sheets_1_size, .ref a_p0_sheets_1_cells])), (a_p0_sheets_1_cells, .inl (G 1, 40, .inl v_p0_sheets_1_cells)), (a_p0_sheets_2, .inr (7, [.int i_p0_sheets_2_lane, .int i_p0_sheets_2_size, .ref a_p0_sheets_2_cells])), (a_p0_sheets_2_cells, .inl (G 1, 40, .inl v_p0_sheets_2_cells)), (a_p0_sheets_3, .inr (7, [.int i_p0_sheets_3_lane, .int i_p0_sheets_3_size, .ref a_p0_sheets_3_cells])), (a_p0_sheets_3_cells, .inl (G 1, 40, .inl v_p0_sheets_3_cells))] → va_S A s.heap H locs → J62 z60 z61 = some (r, o_i_p0_latestTear) → W p l e rm_X11_read s m ([.ref a_p0, .int x1, .int x2, .int x3, .int x4] : List Value).toArray below meth c H locs 0 0 Q (F0 m 111 ls []) := by
              clear hf hl hP hD hS
              intro z60 z61 ls H locs hl hP hD hS hf
              replace hf := jn2_s eJ62 hf
              refine lv_iconst (v := (0 : Int32)) hx hb dX11_read_111 (by decide) ?_
              refine lv_topi (fun z63 ez => ?_)
              replace hf := bnd_s hf ez
              clear ez
              refine lv_istore (lv' := [(8, .int z63), (7, .int z61), (6, .int z60), (5, .ref a_p0_sheets_3), (0, .ref a_p0), (3, .int x3)]) hx hb dX11_read_112 hl (by decide) rfl (fun ls hl => ?_)
              have hq := jn_i hf
              clear hf
              obtain ⟨J64, eJ64, hf⟩ := hq
              have hJ64 : ∀  (ls : Array Slot) (H : Heap) (locs : List Loc), lv_has ls 9 [(7, .int z61), (6, .int z60), (0, .ref a_p0)] → va_P D vwCl [(a_p0, .inr (11, [.ref a_p0_rules, .ref a_p0_state, .ref a_p0_tape, .ref a_p0_reader, .ref a_p0_kitchen, .ref a_p0_luck, .ref a_p0_plans, .ref a_p0_coups, .ref a_p0_past, .ref a_p0_fairDays, .ref a_p0_images, .ref a_p0_imageHeld, .ref a_p0_sheets, .int i_p0_latestFault, .int i_p0_latestTear])), (a_p0_sheets, .inl (G 5, 4, .inr (.inr (.inr (.inr (va_up (va_up (va_up (va_up (fun _ => none) 0 (some a_p0_sheets_0)) 1 (some a_p0_sheets_1)) 2 (some a_p0_sheets_2)) 3 (some a_p0_sheets_3))))))), (a_p0_sheets_0, .inr (7, [.int i_p0_sheets_0_lane, .int i_p0_sheets_0_size, .ref a_p0_sheets_0_cells])), (a_p0_sheets_0_cells, .inl (G 1, 40, .inl v_p0_sheets_0_cells)), (a_p0_sheets_1, .inr (7, [.int i_p0_sheets_1_lane, .int i_p0_sheets_1_size, .ref a_p0_sheets_1_cells])), (a_p0_sheets_1_cells, .inl (G 1, 40, .inl v_p0_sheets_1_cells)), (a_p0_sheets_2, .inr (7, [.int i_p0_sheets_2_lane, .int i_p0_sheets_2_size, .ref a_p0_sheets_2_cells])), (a_p0_sheets_2_cells, .inl (G 1, 40, .inl v_p0_sheets_2_cells)), (a_p0_sheets_3, .inr (7, [.int i_p0_sheets_3_lane, .int i_p0_sheets_3_size, .ref a_p0_sheets_3_cells])), (a_p0_sheets_3_cells, .inl (G 1, 40, .inl v_p0_sheets_3_cells))] H → va_D A [(a_p0, .inr (11, [.ref a_p0_rules, .ref a_p0_state, .ref a_p0_tape, .ref a_p0_reader, .ref a_p0_kitchen, .ref a_p0_luck, .ref a_p0_plans, .ref a_p0_coups, .ref a_p0_past, .ref a_p0_fairDays, .ref a_p0_images, .ref a_p0_imageHeld, .ref a_p0_sheets, .int i_p0_latestFault, .int i_p0_latestTear])), (a_p0_sheets, .inl (G 5, 4, .inr (.inr (.inr (.inr (va_up (va_up (va_up (va_up (fun _ => none) 0 (some a_p0_sheets_0)) 1 (some a_p0_sheets_1)) 2 (some a_p0_sheets_2)) 3 (some a_p0_sheets_3))))))), (a_p0_sheets_0, .inr (7, [.int i_p0_sheets_0_lane, .int i_p0_sheets_0_size, .ref a_p0_sheets_0_cells])), (a_p0_sheets_0_cells, .inl (G 1, 40, .inl v_p0_sheets_0_cells)), (a_p0_sheets_1, .inr (7, [.int i_p0_sheets_1_lane, .int i_p0_sheets_1_size, .ref a_p0_sheets_1_cells])), (a_p0_sheets_1_cells, .inl (G 1, 40, .inl v_p0_sheets_1_cells)), (a_p0_sheets_2, .inr (7, [.int i_p0_sheets_2_lane, .int i_p0_sheets_2_size, .ref a_p0_sheets_2_cells])), (a_p0_sheets_2_cells, .inl (G 1, 40, .inl v_p0_sheets_2_cells)), (a_p0_sheets_3, .inr (7, [.int i_p0_sheets_3_lane, .int i_p0_sheets_3_size, .ref a_p0_sheets_3_cells])), (a_p0_sheets_3_cells, .inl (G 1, 40, .inl v_p0_sheets_3_cells))] → va_S A s.heap H locs → J64  = some (r, o_i_p0_latestTear) → W p l e rm_X11_read s m ([.ref a_p0, .int x1, .int x2, .int x3, .int x4] : List Value).toArray below meth c H locs 0 0 Q (F0 m 144 ls []) := by
                clear hf hl hP hD hS
                intro  ls H locs hl hP hD hS hf
                replace hf := jn0_s eJ64 hf
                refine lv_aload_n hx hb dX11_read_144 rfl (lv_at hl 2 rfl) ?_
                refine lv_iload hx hb dX11_read_145 (lv_at hl 1 rfl) ?_
                refine lv_topi (fun z65 ez => ?_)
                replace hf := bnd_s hf ez
                clear ez
                refine va_put (D := D) (ci := 11) (v := .int z65) (ty := .int) (C := RX11) (T := TX11) (N := 15) hx hb hts inX11_read_X11 tyX11 tyX11_ok nmX11 hown hK hP hD hS 0 rfl rfl 14 (by decide) (hts _ mwX11_read_2) (fun _ h9 => h9) rfl (by decide +kernel) rfl rfl (Nat.le_of_ble_eq_true rfl) dX11_read_147 (fun H locs hP hD hS => ?_)
                have hP : va_P D vwCl [(a_p0, .inr (11, [.ref a_p0_rules, .ref a_p0_state, .ref a_p0_tape, .ref a_p0_reader, .ref a_p0_kitchen, .ref a_p0_luck, .ref a_p0_plans, .ref a_p0_coups, .ref a_p0_past, .ref a_p0_fairDays, .ref a_p0_images, .ref a_p0_imageHeld, .ref a_p0_sheets, .int i_p0_latestFault, .int z65])), (a_p0_sheets, .inl (G 5, 4, .inr (.inr (.inr (.inr (va_up (va_up (va_up (va_up (fun _ => none) 0 (some a_p0_sheets_0)) 1 (some a_p0_sheets_1)) 2 (some a_p0_sheets_2)) 3 (some a_p0_sheets_3))))))), (a_p0_sheets_0, .inr (7, [.int i_p0_sheets_0_lane, .int i_p0_sheets_0_size, .ref a_p0_sheets_0_cells])), (a_p0_sheets_0_cells, .inl (G 1, 40, .inl v_p0_sheets_0_cells)), (a_p0_sheets_1, .inr (7, [.int i_p0_sheets_1_lane, .int i_p0_sheets_1_size, .ref a_p0_sheets_1_cells])), (a_p0_sheets_1_cells, .inl (G 1, 40, .inl v_p0_sheets_1_cells)), (a_p0_sheets_2, .inr (7, [.int i_p0_sheets_2_lane, .int i_p0_sheets_2_size, .ref a_p0_sheets_2_cells])), (a_p0_sheets_2_cells, .inl (G 1, 40, .inl v_p0_sheets_2_cells)), (a_p0_sheets_3, .inr (7, [.int i_p0_sheets_3_lane, .int i_p0_sheets_3_size, .ref a_p0_sheets_3_cells])), (a_p0_sheets_3_cells, .inl (G 1, 40, .inl v_p0_sheets_3_cells))] H := hP
                have hD : va_D A [(a_p0, .inr (11, [.ref a_p0_rules, .ref a_p0_state, .ref a_p0_tape, .ref a_p0_reader, .ref a_p0_kitchen, .ref a_p0_luck, .ref a_p0_plans, .ref a_p0_coups, .ref a_p0_past, .ref a_p0_fairDays, .ref a_p0_images, .ref a_p0_imageHeld, .ref a_p0_sheets, .int i_p0_latestFault, .int z65])), (a_p0_sheets, .inl (G 5, 4, .inr (.inr (.inr (.inr (va_up (va_up (va_up (va_up (fun _ => none) 0 (some a_p0_sheets_0)) 1 (some a_p0_sheets_1)) 2 (some a_p0_sheets_2)) 3 (some a_p0_sheets_3))))))), (a_p0_sheets_0, .inr (7, [.int i_p0_sheets_0_lane, .int i_p0_sheets_0_size, .ref a_p0_sheets_0_cells])), (a_p0_sheets_0_cells, .inl (G 1, 40, .inl v_p0_sheets_0_cells)), (a_p0_sheets_1, .inr (7, [.int i_p0_sheets_1_lane, .int i_p0_sheets_1_size, .ref a_p0_sheets_1_cells])), (a_p0_sheets_1_cells, .inl (G 1, 40, .inl v_p0_sheets_1_cells)), (a_p0_sheets_2, .inr (7, [.int i_p0_sheets_2_lane, .int i_p0_sheets_2_size, .ref a_p0_sheets_2_cells])), (a_p0_sheets_2_cells, .inl (G 1, 40, .inl v_p0_sheets_2_cells)), (a_p0_sheets_3, .inr (7, [.int i_p0_sheets_3_lane, .int i_p0_sheets_3_size, .ref a_p0_sheets_3_cells])), (a_p0_sheets_3_cells, .inl (G 1, 40, .inl v_p0_sheets_3_cells))] := hD
                refine lv_iload hx hb dX11_read_150 (lv_at hl 0 rfl) ?_
                obtain ⟨rfl, rfl⟩ := ou2 hf
                rw [hQ]
                exact W.iret hx hb hr (fun t ht hW => ⟨⟨_, (), rfl, rfl, by rw [ht]; exact hP, va_K.moved hW.alike hK, hD⟩, hS.F ht⟩) hS.2.2 dX11_read_152
              have hq := lq1_i hf
              clear hf
              obtain ⟨B67, eB67, NB67, hf⟩ := hq
              have hB67 : ∀ (n : Nat) (z66 : Int32) (ls : Array Slot) (H : Heap) (locs : List Loc), lv_has ls 9 [(8, .int z66), (7, .int z61), (6, .int z60), (5, .ref a_p0_sheets_3), (0, .ref a_p0), (3, .int x3)] → va_P D vwCl [(a_p0, .inr (11, [.ref a_p0_rules, .ref a_p0_state, .ref a_p0_tape, .ref a_p0_reader, .ref a_p0_kitchen, .ref a_p0_luck, .ref a_p0_plans, .ref a_p0_coups, .ref a_p0_past, .ref a_p0_fairDays, .ref a_p0_images, .ref a_p0_imageHeld, .ref a_p0_sheets, .int i_p0_latestFault, .int i_p0_latestTear])), (a_p0_sheets, .inl (G 5, 4, .inr (.inr (.inr (.inr (va_up (va_up (va_up (va_up (fun _ => none) 0 (some a_p0_sheets_0)) 1 (some a_p0_sheets_1)) 2 (some a_p0_sheets_2)) 3 (some a_p0_sheets_3))))))), (a_p0_sheets_0, .inr (7, [.int i_p0_sheets_0_lane, .int i_p0_sheets_0_size, .ref a_p0_sheets_0_cells])), (a_p0_sheets_0_cells, .inl (G 1, 40, .inl v_p0_sheets_0_cells)), (a_p0_sheets_1, .inr (7, [.int i_p0_sheets_1_lane, .int i_p0_sheets_1_size, .ref a_p0_sheets_1_cells])), (a_p0_sheets_1_cells, .inl (G 1, 40, .inl v_p0_sheets_1_cells)), (a_p0_sheets_2, .inr (7, [.int i_p0_sheets_2_lane, .int i_p0_sheets_2_size, .ref a_p0_sheets_2_cells])), (a_p0_sheets_2_cells, .inl (G 1, 40, .inl v_p0_sheets_2_cells)), (a_p0_sheets_3, .inr (7, [.int i_p0_sheets_3_lane, .int i_p0_sheets_3_size, .ref a_p0_sheets_3_cells])), (a_p0_sheets_3_cells, .inl (G 1, 40, .inl v_p0_sheets_3_cells))] H → va_D A [(a_p0, .inr (11, [.ref a_p0_rules, .ref a_p0_state, .ref a_p0_tape, .ref a_p0_reader, .ref a_p0_kitchen, .ref a_p0_luck, .ref a_p0_plans, .ref a_p0_coups, .ref a_p0_past, .ref a_p0_fairDays, .ref a_p0_images, .ref a_p0_imageHeld, .ref a_p0_sheets, .int i_p0_latestFault, .int i_p0_latestTear])), (a_p0_sheets, .inl (G 5, 4, .inr (.inr (.inr (.inr (va_up (va_up (va_up (va_up (fun _ => none) 0 (some a_p0_sheets_0)) 1 (some a_p0_sheets_1)) 2 (some a_p0_sheets_2)) 3 (some a_p0_sheets_3))))))), (a_p0_sheets_0, .inr (7, [.int i_p0_sheets_0_lane, .int i_p0_sheets_0_size, .ref a_p0_sheets_0_cells])), (a_p0_sheets_0_cells, .inl (G 1, 40, .inl v_p0_sheets_0_cells)), (a_p0_sheets_1, .inr (7, [.int i_p0_sheets_1_lane, .int i_p0_sheets_1_size, .ref a_p0_sheets_1_cells])), (a_p0_sheets_1_cells, .inl (G 1, 40, .inl v_p0_sheets_1_cells)), (a_p0_sheets_2, .inr (7, [.int i_p0_sheets_2_lane, .int i_p0_sheets_2_size, .ref a_p0_sheets_2_cells])), (a_p0_sheets_2_cells, .inl (G 1, 40, .inl v_p0_sheets_2_cells)), (a_p0_sheets_3, .inr (7, [.int i_p0_sheets_3_lane, .int i_p0_sheets_3_size, .ref a_p0_sheets_3_cells])), (a_p0_sheets_3_cells, .inl (G 1, 40, .inl v_p0_sheets_3_cells))] → va_S A s.heap H locs → lq1 B67 n z66 = some (r, o_i_p0_latestTear) → W p l e rm_X11_read s m ([.ref a_p0, .int x1, .int x2, .int x3, .int x4] : List Value).toArray below meth c H locs 0 0 Q (F0 m 114 ls []) := by
                clear hf hl hP hD hS
                intro n
                induction n with
                | zero =>
                  intro z66 ls H locs hl hP hD hS hf
                  exact (lq1_0 hf).elim
                | succ n ih114 =>
                  intro z66 ls H locs hl hP hD hS hf
                  replace hf := lq1_s eB67 hf
                  unfold B_X11_read_114_4 at hf
                  refine lv_iload hx hb dX11_read_114 (lv_at hl 0 rfl) ?_
                  refine lv_iload hx hb dX11_read_116 (lv_at hl 1 rfl) ?_
                  refine lv_icmp_ge (tgt := 144) hx hb dX11_read_118 (by decide) (fun cc => ?_) (fun cc => ?_)
                  ·
                    replace hf := ite_t cc hf
                    clear cc
                    exact hJ64  _ _ _ (lv_sub hl [1, 2, 4] rfl) hP hD hS hf
                  ·
                    replace hf := ite_f cc hf
                    clear cc
                    refine lv_aload_n hx hb dX11_read_121 rfl (lv_at hl 4 rfl) ?_
                    refine va_get (D := D) (ci := 11) (v := .ref a_p0_kitchen) (C := RX11) (T := TX11) (N := 15) hx hb hts inX11_read_X11 hown hK hP 0 rfl rfl 4 (by decide) (hts _ mwX11_read_3) (fun _ h9 => h9) rfl dX11_read_122 ?_
                    refine lv_aload hx hb dX11_read_125 (lv_at hl 3 rfl) ?_
                    refine va_get (D := D) (ci := 7) (v := .ref a_p0_sheets_3_cells) (C := RX7) (T := TX7) (N := 3) hx hb hts inX11_read_X7 hown hK hP 8 rfl rfl 2 (by decide) (hts _ mwX11_read_5) (fun _ h9 => h9) rfl dX11_read_127 ?_
                    refine lv_iload_n hx hb dX11_read_130 rfl (lv_at hl 5 rfl) ?_
                    refine lv_iload hx hb dX11_read_131 (lv_at hl 0 rfl) ?_
                    refine lv_iadd hx hb dX11_read_133 ?_
                    have hc := ck_c hf
                    replace hf := ck_r hf
                    refine va_iald hx hb hK hP 9 1 rfl rfl (ixB_in hc) dX11_read_134 ?_
                    clear hc
                    cases hf
              exact hB67 _ _ _ _ _ (lv_sub hl [0, 1, 2, 3, 4, 5] rfl) hP hD hS hf
            have hq := lq3_i hf
            clear hf
            obtain ⟨B71, eB71, NB71, hf⟩ := hq
            have hB71 : ∀ (n : Nat) (z68 : Int32) (z69 : Int32) (z70 : Int32) (ls : Array Slot) (H : Heap) (locs : List Loc), lv_has ls 9 [(8, .int z68), (7, .int z69), (6, .int z70), (5, .ref a_p0_sheets_3), (0, .ref a_p0), (2, .int x2), (3, .int x3), (4, .int x4)] → va_P D vwCl [(a_p0, .inr (11, [.ref a_p0_rules, .ref a_p0_state, .ref a_p0_tape, .ref a_p0_reader, .ref a_p0_kitchen, .ref a_p0_luck, .ref a_p0_plans, .ref a_p0_coups, .ref a_p0_past, .ref a_p0_fairDays, .ref a_p0_images, .ref a_p0_imageHeld, .ref a_p0_sheets, .int i_p0_latestFault, .int i_p0_latestTear])), (a_p0_sheets, .inl (G 5, 4, .inr (.inr (.inr (.inr (va_up (va_up (va_up (va_up (fun _ => none) 0 (some a_p0_sheets_0)) 1 (some a_p0_sheets_1)) 2 (some a_p0_sheets_2)) 3 (some a_p0_sheets_3))))))), (a_p0_sheets_0, .inr (7, [.int i_p0_sheets_0_lane, .int i_p0_sheets_0_size, .ref a_p0_sheets_0_cells])), (a_p0_sheets_0_cells, .inl (G 1, 40, .inl v_p0_sheets_0_cells)), (a_p0_sheets_1, .inr (7, [.int i_p0_sheets_1_lane, .int i_p0_sheets_1_size, .ref a_p0_sheets_1_cells])), (a_p0_sheets_1_cells, .inl (G 1, 40, .inl v_p0_sheets_1_cells)), (a_p0_sheets_2, .inr (7, [.int i_p0_sheets_2_lane, .int i_p0_sheets_2_size, .ref a_p0_sheets_2_cells])), (a_p0_sheets_2_cells, .inl (G 1, 40, .inl v_p0_sheets_2_cells)), (a_p0_sheets_3, .inr (7, [.int i_p0_sheets_3_lane, .int i_p0_sheets_3_size, .ref a_p0_sheets_3_cells])), (a_p0_sheets_3_cells, .inl (G 1, 40, .inl v_p0_sheets_3_cells))] H → va_D A [(a_p0, .inr (11, [.ref a_p0_rules, .ref a_p0_state, .ref a_p0_tape, .ref a_p0_reader, .ref a_p0_kitchen, .ref a_p0_luck, .ref a_p0_plans, .ref a_p0_coups, .ref a_p0_past, .ref a_p0_fairDays, .ref a_p0_images, .ref a_p0_imageHeld, .ref a_p0_sheets, .int i_p0_latestFault, .int i_p0_latestTear])), (a_p0_sheets, .inl (G 5, 4, .inr (.inr (.inr (.inr (va_up (va_up (va_up (va_up (fun _ => none) 0 (some a_p0_sheets_0)) 1 (some a_p0_sheets_1)) 2 (some a_p0_sheets_2)) 3 (some a_p0_sheets_3))))))), (a_p0_sheets_0, .inr (7, [.int i_p0_sheets_0_lane, .int i_p0_sheets_0_size, .ref a_p0_sheets_0_cells])), (a_p0_sheets_0_cells, .inl (G 1, 40, .inl v_p0_sheets_0_cells)), (a_p0_sheets_1, .inr (7, [.int i_p0_sheets_1_lane, .int i_p0_sheets_1_size, .ref a_p0_sheets_1_cells])), (a_p0_sheets_1_cells, .inl (G 1, 40, .inl v_p0_sheets_1_cells)), (a_p0_sheets_2, .inr (7, [.int i_p0_sheets_2_lane, .int i_p0_sheets_2_size, .ref a_p0_sheets_2_cells])), (a_p0_sheets_2_cells, .inl (G 1, 40, .inl v_p0_sheets_2_cells)), (a_p0_sheets_3, .inr (7, [.int i_p0_sheets_3_lane, .int i_p0_sheets_3_size, .ref a_p0_sheets_3_cells])), (a_p0_sheets_3_cells, .inl (G 1, 40, .inl v_p0_sheets_3_cells))] → va_S A s.heap H locs → lq3 B71 n z68 z69 z70 = some (r, o_i_p0_latestTear) → W p l e rm_X11_read s m ([.ref a_p0, .int x1, .int x2, .int x3, .int x4] : List Value).toArray below meth c H locs 0 0 Q (F0 m 45 ls []) := by
              clear hf hl hP hD hS
              intro n
              induction n with
              | zero =>
                intro z68 z69 z70 ls H locs hl hP hD hS hf
                exact (lq3_0 hf).elim
              | succ n ih45 =>
                intro z68 z69 z70 ls H locs hl hP hD hS hf
                replace hf := lq3_s eB71 hf
                unfold B_X11_read_45_4 at hf
                refine lv_iload hx hb dX11_read_45 (lv_at hl 0 rfl) ?_
                refine lv_iload hx hb dX11_read_47 (lv_at hl 7 rfl) ?_
                refine lv_icmp_ge (tgt := 111) hx hb dX11_read_49 (by decide) (fun cc => ?_) (fun cc => ?_)
                ·
                  replace hf := ite_t cc hf
                  clear cc
                  exact hJ62 _ _ _ _ _ (lv_sub hl [1, 2, 3, 4, 6] rfl) hP hD hS hf
                ·
                  replace hf := ite_f cc hf
                  clear cc
                  refine lv_iload hx hb dX11_read_52 (lv_at hl 2 rfl) ?_
                  refine lv_if_ne (tgt := 111) hx hb dX11_read_54 (by decide) (fun cc => ?_) (fun cc => ?_)
                  ·
                    replace hf := ite_f cc hf
                    clear cc
                    exact hJ62 _ _ _ _ _ (lv_sub hl [1, 2, 3, 4, 6] rfl) hP hD hS hf
                  ·
                    replace hf := ite_t cc hf
                    clear cc
                    refine lv_aload hx hb dX11_read_57 (lv_at hl 3 rfl) ?_
                    refine lv_iload_n hx hb dX11_read_59 rfl (lv_at hl 5 rfl) ?_
                    refine lv_iload_n hx hb dX11_read_60 rfl (lv_at hl 6 rfl) ?_
                    refine lv_iload hx hb dX11_read_61 (lv_at hl 0 rfl) ?_
                    refine lv_iadd hx hb dX11_read_63 ?_
                    have hq := bd1_s hf
                    clear hf
                    obtain ⟨z72, hcall, hf⟩ := hq
                    refine gcI (ws' := [(a_p0, .inr (11, [.ref a_p0_rules, .ref a_p0_state, .ref a_p0_tape, .ref a_p0_reader, .ref a_p0_kitchen, .ref a_p0_luck, .ref a_p0_plans, .ref a_p0_coups, .ref a_p0_past, .ref a_p0_fairDays, .ref a_p0_images, .ref a_p0_imageHeld, .ref a_p0_sheets, .int i_p0_latestFault, .int i_p0_latestTear])), (a_p0_sheets, .inl (G 5, 4, .inr (.inr (.inr (.inr (va_up (va_up (va_up (va_up (fun _ => none) 0 (some a_p0_sheets_0)) 1 (some a_p0_sheets_1)) 2 (some a_p0_sheets_2)) 3 (some a_p0_sheets_3))))))), (a_p0_sheets_0, .inr (7, [.int i_p0_sheets_0_lane, .int i_p0_sheets_0_size, .ref a_p0_sheets_0_cells])), (a_p0_sheets_0_cells, .inl (G 1, 40, .inl v_p0_sheets_0_cells)), (a_p0_sheets_1, .inr (7, [.int i_p0_sheets_1_lane, .int i_p0_sheets_1_size, .ref a_p0_sheets_1_cells])), (a_p0_sheets_1_cells, .inl (G 1, 40, .inl v_p0_sheets_1_cells)), (a_p0_sheets_2, .inr (7, [.int i_p0_sheets_2_lane, .int i_p0_sheets_2_size, .ref a_p0_sheets_2_cells])), (a_p0_sheets_2_cells, .inl (G 1, 40, .inl v_p0_sheets_2_cells)), (a_p0_sheets_3, .inr (7, [.int i_p0_sheets_3_lane, .int i_p0_sheets_3_size, .ref a_p0_sheets_3_cells])), (a_p0_sheets_3_cells, .inl (G 1, 40, .inl v_p0_sheets_3_cells))]) (va_runV (As := [.int x2, .int (x3 + z68)]) (rest := []) ⟨hx, hb, hml, hown, hts⟩ (c_X7_faultAt (l := l) (D := D) (G := G) (sz := H.size) (a_p0 := a_p0_sheets_3) (a_p0_cells := a_p0_sheets_3_cells) (i_p0_lane := i_p0_sheets_3_lane) (i_p0_size := i_p0_sheets_3_size) (x1 := x2) (x2 := (x3 + z68)) (r := z72) (hf := hcall)) (cwV 2 hts gX11_read_X7_faultAt rfl rfl rfl (by decide +kernel) ⟨Nat.le_of_ble_eq_true rfl, Nat.le_of_ble_eq_true rfl⟩) (preG_V (ci := 7) (hP.sub [8] rfl) (hD.sub [8] rfl rfl) hK rfl rfl) rfl rfl hl.1 rfl (lv_room (Nat.le_of_ble_eq_true rfl)) dX11_read_64 ⟨Nat.le_of_ble_eq_true rfl, Nat.le_of_ble_eq_true rfl⟩) hP hD hS hA [8] [0, 1, 2, 3, 4, 5, 6, 7, 9] [0, 1, 2, 3, 4, 5, 6, 7, 9, 8] rfl rfl rfl (by decide) rfl rfl rfl (fun H locs hP hD hS => ?_)
                    clear hcall
                    refine lv_topi (fun z73 ez => ?_)
                    replace hf := bnd_s hf ez
                    clear ez
                    refine lv_istore (lv' := [(6, .int z73), (8, .int z68), (7, .int z69), (5, .ref a_p0_sheets_3), (0, .ref a_p0), (2, .int x2), (3, .int x3), (4, .int x4)]) hx hb dX11_read_67 hl (by decide) rfl (fun ls hl => ?_)
                    refine lv_iload hx hb dX11_read_69 (lv_at hl 0 rfl) ?_
                    refine lv_if_ne (tgt := 105) hx hb dX11_read_71 (by decide) (fun cc => ?_) (fun cc => ?_)
                    ·
                      replace hf := ite_f cc hf
                      clear cc
                      obtain ⟨z74, ez⟩ : ∃ y : Int32, y = (z68 + (1 : Int32)) := ⟨_, rfl⟩
                      replace hf := bnd_s hf ez
                      refine lv_iinc (v := z74) (lv' := [(8, .int z74), (6, .int z73), (7, .int z69), (5, .ref a_p0_sheets_3), (0, .ref a_p0), (2, .int x2), (3, .int x3), (4, .int x4)]) hx hb dX11_read_105 hl (k := 1) rfl (by rw [ez]; rfl) (by decide) rfl (fun ls hl => ?_)
                      clear ez
                      refine lv_goto (tgt := 45) hx hb dX11_read_108 (by decide) ?_
                      exact ih45 _ _ _ _ _ _ (lv_sub hl [0, 2, 1, 3, 4, 5, 6, 7] rfl) hP hD hS hf
                    ·
                      replace hf := ite_t cc hf
                      clear cc
                      refine lv_aload_n hx hb dX11_read_74 rfl (lv_at hl 4 rfl) ?_
                      refine lv_aload hx hb dX11_read_75 (lv_at hl 3 rfl) ?_
                      refine va_get (D := D) (ci := 7) (v := .ref a_p0_sheets_3_cells) (C := RX7) (T := TX7) (N := 3) hx hb hts inX11_read_X7 hown hK hP 8 rfl rfl 2 (by decide) (hts _ mwX11_read_5) (fun _ h9 => h9) rfl dX11_read_77 ?_
                      refine lv_iload_n hx hb dX11_read_80 rfl (lv_at hl 6 rfl) ?_
                      refine lv_iload hx hb dX11_read_81 (lv_at hl 1 rfl) ?_
                      refine lv_iadd hx hb dX11_read_83 ?_
                      have hc := ck_c hf
                      replace hf := ck_r hf
                      refine va_iald hx hb hK hP 9 1 rfl rfl (ixB_in hc) dX11_read_84 ?_
                      clear hc
                      refine lv_iload hx hb dX11_read_85 (lv_at hl 1 rfl) ?_
                      cases hf
            exact hB71 _ _ _ _ _ _ _ (lv_sub hl [0, 1, 2, 3, 4, 6, 7, 8] rfl) hP hD hS hf
          replace hf := ite_f cc hf
          clear cc
          cases hf
        ·
          replace hf := ite_f cc hf
          clear cc
          refine lv_iconst (v := (-1 : Int32)) hx hb dX11_read_26 (by decide) ?_
          obtain ⟨rfl, rfl⟩ := ou2 hf
          rw [hQ]
          exact W.iret hx hb hr (fun t ht hW => ⟨⟨_, (), rfl, rfl, by rw [ht]; exact hP, va_K.moved hW.alike hK, hD⟩, hS.F ht⟩) hS.2.2 dX11_read_27
