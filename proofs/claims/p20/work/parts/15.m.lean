noncomputable def f_X11_isRowQuestion (x0 : Int) (x1 : Int) : Option (Int) := (ck (z_r32 x0) (if x0 = (0 : Int) then (some (1 : Int)) else (if x0 < (10 : Int) then (some (0 : Int)) else (ck (z_r32 ((10 : Int) + x1)) (if ((10 : Int) + x1) ≤ x0 then (some (0 : Int)) else (some (1 : Int)))))))
abbrev rm_X11_isRowQuestion : Room := { frames := 0, cells := 0, slots := 0, locals := 0 }
set_option maxHeartbeats 8000000 in
set_option maxRecDepth 100000 in
theorem c_X11_isRowQuestion (l : Launch) (D : va_G) (G : Nat → ClassId) (sz : Nat) (x0 : Int) (x1 : Int) (r : Int) (hf : f_X11_isRowQuestion x0 x1 = some r) : Met l yX11_isRowQuestion wsX11_isRowQuestion rm_X11_isRowQuestion (pcG D G [.int (Int32.ofInt x0), .int (Int32.ofInt x1)] sz []) (qcI D G (Int32.ofInt r) [] (va_A [] sz)) 0 0 (va_A [] sz) := by
  refine Met.ofW (cc := cX11_isRowQuestion) (maxL := 2) (ret := (some .boolean)) (by decide) rfl ?_
  intro p e s m args below meth c s₁ B hml hv
  obtain ⟨rfl, hsz, hP, hK, hD0⟩ := hv
  have hx := B.exec
  have hb := B.bytes
  have hr := B.returns
  have hts := atoms_spec (ws := wsX11_isRowQuestion) B.pre
  have hown : s.vm.findClass RX11 = some m.cls := findClass_of_methodNamed B.named
  have hlocks := B.notSynchronized
  subst hsz
  have hD := hD0.self (sz := s.heap.size)
  generalize hAe : va_A [] s.heap.size = A at hD ⊢
  have hA : ∀ q : Nat, s.heap.size ≤ q → A q := fun q h => by rw [← hAe]; exact Or.inr h
  clear hAe hD0
  have hS : va_S A s.heap s.heap [] := va_S.rf
  have hl := lv_entry ([.int (Int32.ofInt x0), .int (Int32.ofInt x1)]) (n := 2) (Nat.le_of_ble_eq_true rfl)
  rw [lg_entry_eq]
  generalize (lg_sl ([.int (Int32.ofInt x0), .int (Int32.ofInt x1)]) ++ List.replicate (2 - (lg_sl ([.int (Int32.ofInt x0), .int (Int32.ofInt x1)])).length) Slot.unset).toArray = ls at hl ⊢
  have hl : lv_has ls 2 [(0, .int (Int32.ofInt x0)), (1, .int (Int32.ofInt x1))] := hl
  refine W_nameQ (fun Q hQ => ?_)
  obtain ⟨H, hH⟩ : ∃ H, H = s.heap := ⟨_, rfl⟩
  replace hS : va_S A s.heap H [] := by rw [hH]; exact hS
  replace hP : va_P D vwCl [] H := by rw [hH]; exact hP
  rw [← hH]
  clear hH
  unfold f_X11_isRowQuestion at hf
  refine lv_iload_n hx hb dX11_isRowQuestion_0 rfl (lv_at hl 0 rfl) ?_
  have hr0 := ck_c hf
  replace hf := ck_r hf
  refine lv_if_eq (tgt := 18) hx hb dX11_isRowQuestion_1 (by decide) (fun cc => ?_) (fun cc => ?_)
  ·
    replace hf := ite_t ((z_eq0 hr0).mp cc) hf
    clear cc
    refine lv_iconst (v := Int32.ofInt (1 : Int)) hx hb dX11_isRowQuestion_18 (by decide) ?_
    refine lv_goto (tgt := 23) hx hb dX11_isRowQuestion_19 (by decide) ?_
    obtain rfl := ou1 hf
    rw [hQ]
    exact W.zret hx hb hr rfl (fun t ht hW => ⟨⟨_, (), rfl, rfl, by rw [ht]; exact hP, va_K.moved hW.alike hK, hD⟩, hS.F ht⟩) hS.2.2 dX11_isRowQuestion_23
  ·
    replace hf := ite_f (fun h9 => cc ((z_eq0 hr0).mpr h9)) hf
    clear cc
    refine lv_iload_n hx hb dX11_isRowQuestion_4 rfl (lv_at hl 0 rfl) ?_
    refine lv_bipush (v := Int32.ofInt (10 : Int)) hx hb dX11_isRowQuestion_5 (by decide) ?_
    refine lv_icmp_lt (tgt := 22) hx hb dX11_isRowQuestion_7 (by decide) (fun cc => ?_) (fun cc => ?_)
    ·
      replace hf := ite_t ((z_lt hr0 (by decide)).mp cc) hf
      clear cc
      refine lv_iconst (v := Int32.ofInt (0 : Int)) hx hb dX11_isRowQuestion_22 (by decide) ?_
      obtain rfl := ou1 hf
      rw [hQ]
      exact W.zret hx hb hr rfl (fun t ht hW => ⟨⟨_, (), rfl, rfl, by rw [ht]; exact hP, va_K.moved hW.alike hK, hD⟩, hS.F ht⟩) hS.2.2 dX11_isRowQuestion_23
    ·
      replace hf := ite_f (fun h9 => cc ((z_lt hr0 (by decide)).mpr h9)) hf
      clear cc
      refine lv_iload_n hx hb dX11_isRowQuestion_10 rfl (lv_at hl 0 rfl) ?_
      refine lv_bipush (v := Int32.ofInt (10 : Int)) hx hb dX11_isRowQuestion_11 (by decide) ?_
      refine lv_iload_n hx hb dX11_isRowQuestion_13 rfl (lv_at hl 1 rfl) ?_
      refine lv_iadd hx hb dX11_isRowQuestion_14 (z_ci (Int32.ofInt_add (10 : Int) x1) ?_)
      have hr1 := ck_c hf
      replace hf := ck_r hf
      refine lv_icmp_ge (tgt := 22) hx hb dX11_isRowQuestion_15 (by decide) (fun cc => ?_) (fun cc => ?_)
      ·
        replace hf := ite_t ((z_le hr1 hr0).mp cc) hf
        clear cc
        refine lv_iconst (v := Int32.ofInt (0 : Int)) hx hb dX11_isRowQuestion_22 (by decide) ?_
        obtain rfl := ou1 hf
        rw [hQ]
        exact W.zret hx hb hr rfl (fun t ht hW => ⟨⟨_, (), rfl, rfl, by rw [ht]; exact hP, va_K.moved hW.alike hK, hD⟩, hS.F ht⟩) hS.2.2 dX11_isRowQuestion_23
      ·
        replace hf := ite_f (fun h9 => cc ((z_le hr1 hr0).mpr h9)) hf
        clear cc
        refine lv_iconst (v := Int32.ofInt (1 : Int)) hx hb dX11_isRowQuestion_18 (by decide) ?_
        refine lv_goto (tgt := 23) hx hb dX11_isRowQuestion_19 (by decide) ?_
        obtain rfl := ou1 hf
        rw [hQ]
        exact W.zret hx hb hr rfl (fun t ht hW => ⟨⟨_, (), rfl, rfl, by rw [ht]; exact hP, va_K.moved hW.alike hK, hD⟩, hS.F ht⟩) hS.2.2 dX11_isRowQuestion_23

noncomputable def f_X11_ofRow (n_p0 : Nat) (v_p0 : (Int → Int)) (x1 : Int) (x2 : Int) : Option (Int) := (ck (z_r32 x2) (if x2 < (0 : Int) then (some (-4 : Int)) else (ck (z_r32 x1) (if x1 ≤ x2 then (some (-4 : Int)) else (ck (z_r32 ((n_p0 : Nat) : Int)) (if ((n_p0 : Nat) : Int) ≤ x2 then (some (-4 : Int)) else (ck (z_ix x2 n_p0) (some (v_p0 x2)))))))))
abbrev rm_X11_ofRow : Room := { frames := 0, cells := 0, slots := 0, locals := 0 }
set_option maxHeartbeats 8000000 in
set_option maxRecDepth 100000 in
theorem c_X11_ofRow (l : Launch) (D : va_G) (G : Nat → ClassId) (sz : Nat) (a_p0 : Nat) (n_p0 : Nat) (v_p0 : (Int → Int)) (x1 : Int) (x2 : Int) (r : Int) (hf : f_X11_ofRow n_p0 v_p0 x1 x2 = some r) : Met l yX11_ofRow wsX11_ofRow rm_X11_ofRow (pcG D G [.ref a_p0, .int (Int32.ofInt x1), .int (Int32.ofInt x2)] sz [(a_p0, .inl (G 1, n_p0, .inl (zA v_p0)))]) (qcI D G (Int32.ofInt r) [(a_p0, .inl (G 1, n_p0, .inl (zA v_p0)))] (va_A [(a_p0, .inl (G 1, n_p0, .inl (zA v_p0)))] sz)) 0 0 (va_A [(a_p0, .inl (G 1, n_p0, .inl (zA v_p0)))] sz) := by
  refine Met.ofW (cc := cX11_ofRow) (maxL := 3) (ret := (some .int)) (by decide) rfl ?_
  intro p e s m args below meth c s₁ B hml hv
  obtain ⟨rfl, hsz, hP, hK, hD0⟩ := hv
  have hx := B.exec
  have hb := B.bytes
  have hr := B.returns
  have hts := atoms_spec (ws := wsX11_ofRow) B.pre
  have hown : s.vm.findClass RX11 = some m.cls := findClass_of_methodNamed B.named
  have hlocks := B.notSynchronized
  subst hsz
  have hD := hD0.self (sz := s.heap.size)
  generalize hAe : va_A [(a_p0, .inl (G 1, n_p0, .inl (zA v_p0)))] s.heap.size = A at hD ⊢
  have hA : ∀ q : Nat, s.heap.size ≤ q → A q := fun q h => by rw [← hAe]; exact Or.inr h
  clear hAe hD0
  have hS : va_S A s.heap s.heap [] := va_S.rf
  have hl := lv_entry ([.ref a_p0, .int (Int32.ofInt x1), .int (Int32.ofInt x2)]) (n := 3) (Nat.le_of_ble_eq_true rfl)
  rw [lg_entry_eq]
  generalize (lg_sl ([.ref a_p0, .int (Int32.ofInt x1), .int (Int32.ofInt x2)]) ++ List.replicate (3 - (lg_sl ([.ref a_p0, .int (Int32.ofInt x1), .int (Int32.ofInt x2)])).length) Slot.unset).toArray = ls at hl ⊢
  have hl : lv_has ls 3 [(0, .ref a_p0), (1, .int (Int32.ofInt x1)), (2, .int (Int32.ofInt x2))] := hl
  refine W_nameQ (fun Q hQ => ?_)
  obtain ⟨H, hH⟩ : ∃ H, H = s.heap := ⟨_, rfl⟩
  replace hS : va_S A s.heap H [] := by rw [hH]; exact hS
  replace hP : va_P D vwCl [(a_p0, .inl (G 1, n_p0, .inl (zA v_p0)))] H := by rw [hH]; exact hP
  rw [← hH]
  clear hH
  unfold f_X11_ofRow at hf
  refine lv_iload_n hx hb dX11_ofRow_0 rfl (lv_at hl 2 rfl) ?_
  have hr0 := ck_c hf
  replace hf := ck_r hf
  refine lv_if_lt (tgt := 21) hx hb dX11_ofRow_1 (by decide) (fun cc => ?_) (fun cc => ?_)
  ·
    replace hf := ite_t ((z_lt0 hr0).mp cc) hf
    clear cc
    refine lv_bipush (v := Int32.ofInt (-4 : Int)) hx hb dX11_ofRow_21 (by decide) ?_
    obtain rfl := ou1 hf
    rw [hQ]
    exact W.iret hx hb hr (fun t ht hW => ⟨⟨_, (), rfl, rfl, by rw [ht]; exact hP, va_K.moved hW.alike hK, hD⟩, hS.F ht⟩) hS.2.2 dX11_ofRow_23
  ·
    replace hf := ite_f (fun h9 => cc ((z_lt0 hr0).mpr h9)) hf
    clear cc
    refine lv_iload_n hx hb dX11_ofRow_4 rfl (lv_at hl 2 rfl) ?_
    refine lv_iload_n hx hb dX11_ofRow_5 rfl (lv_at hl 1 rfl) ?_
    have hr1 := ck_c hf
    replace hf := ck_r hf
    refine lv_icmp_ge (tgt := 21) hx hb dX11_ofRow_6 (by decide) (fun cc => ?_) (fun cc => ?_)
    ·
      replace hf := ite_t ((z_le hr1 hr0).mp cc) hf
      clear cc
      refine lv_bipush (v := Int32.ofInt (-4 : Int)) hx hb dX11_ofRow_21 (by decide) ?_
      obtain rfl := ou1 hf
      rw [hQ]
      exact W.iret hx hb hr (fun t ht hW => ⟨⟨_, (), rfl, rfl, by rw [ht]; exact hP, va_K.moved hW.alike hK, hD⟩, hS.F ht⟩) hS.2.2 dX11_ofRow_23
    ·
      replace hf := ite_f (fun h9 => cc ((z_le hr1 hr0).mpr h9)) hf
      clear cc
      refine lv_iload_n hx hb dX11_ofRow_9 rfl (lv_at hl 2 rfl) ?_
      refine lv_aload_n hx hb dX11_ofRow_10 rfl (lv_at hl 0 rfl) ?_
      refine va_alen (v := Int32.ofInt ((n_p0 : Nat) : Int)) hx hb hK hP 0 1 rfl rfl (z_len _) dX11_ofRow_11 ?_
      have hr2 := ck_c hf
      replace hf := ck_r hf
      refine lv_icmp_ge (tgt := 21) hx hb dX11_ofRow_12 (by decide) (fun cc => ?_) (fun cc => ?_)
      ·
        replace hf := ite_t ((z_le hr2 hr0).mp cc) hf
        clear cc
        refine lv_bipush (v := Int32.ofInt (-4 : Int)) hx hb dX11_ofRow_21 (by decide) ?_
        obtain rfl := ou1 hf
        rw [hQ]
        exact W.iret hx hb hr (fun t ht hW => ⟨⟨_, (), rfl, rfl, by rw [ht]; exact hP, va_K.moved hW.alike hK, hD⟩, hS.F ht⟩) hS.2.2 dX11_ofRow_23
      ·
        replace hf := ite_f (fun h9 => cc ((z_le hr2 hr0).mpr h9)) hf
        clear cc
        refine lv_aload_n hx hb dX11_ofRow_15 rfl (lv_at hl 0 rfl) ?_
        refine lv_iload_n hx hb dX11_ofRow_16 rfl (lv_at hl 2 rfl) ?_
        have hc := ck_c hf
        replace hf := ck_r hf
        refine va_iald hx hb hK hP 0 1 rfl rfl (z_ix_in hc) dX11_ofRow_17 (z_ci (z_ald v_p0 hc) ?_)
        clear hc
        refine lv_goto (tgt := 23) hx hb dX11_ofRow_18 (by decide) ?_
        obtain rfl := ou1 hf
        rw [hQ]
        exact W.iret hx hb hr (fun t ht hW => ⟨⟨_, (), rfl, rfl, by rw [ht]; exact hP, va_K.moved hW.alike hK, hD⟩, hS.F ht⟩) hS.2.2 dX11_ofRow_23

noncomputable def f_X11_reign (i_p0_rules_seats : Int) (i_p0_rules_stirs : Int) (v_p0_rules_after : (Int → Int)) (i_p0_state_bone : Int) (i_p0_state_king : Int) (v_p0_state_friends : (Int → Int)) (v_p0_kitchen_places : (Int → Int)) (v_p0_kitchen_holders : (Int → Int)) (v_p0_plans_good : (Int → Int)) (v_p0_plans_row : (Int → Int)) (x1 : Int) (x2 : Int) : Option (Int × (Int → Int) × (Int → Int) × (Int → Int) × (Int → Int)) := (ck (z_r32 x1) (if x1 < (1 : Int) then (some ((-1 : Int), v_p0_kitchen_places, v_p0_kitchen_holders, v_p0_plans_good, v_p0_plans_row)) else (if (10 : Int) < x1 then (some ((-1 : Int), v_p0_kitchen_places, v_p0_kitchen_holders, v_p0_plans_good, v_p0_plans_row)) else (bd1 (f_X11_isRowQuestion x2 (10 : Int)) (fun (z2 : Int) => (ck (z_r32 z2) (if z2 = (0 : Int) then (some ((-1 : Int), v_p0_kitchen_places, v_p0_kitchen_holders, v_p0_plans_good, v_p0_plans_row)) else (ck (z_r32 i_p0_rules_stirs) (if i_p0_rules_stirs = (0 : Int) then (some ((-2 : Int), v_p0_kitchen_places, v_p0_kitchen_holders, v_p0_plans_good, v_p0_plans_row)) else (bd5 (f_X5_planReign i_p0_rules_seats i_p0_rules_stirs v_p0_rules_after i_p0_state_bone i_p0_state_king v_p0_state_friends v_p0_kitchen_places v_p0_kitchen_holders v_p0_plans_good v_p0_plans_row x1) (fun (z5 : Int) (w6 : (Int → Int)) (w7 : (Int → Int)) (w8 : (Int → Int)) (w9 : (Int → Int)) => (bnd z5 (fun (z10 : Int) => (ck (z_r32 x2) (if x2 = (0 : Int) then (some (z10, w6, w7, w8, w9)) else (bd1 (f_X11_ofRow 10 w9 z10 (x2 - (10 : Int))) (fun (z12 : Int) => (some (z12, w6, w7, w8, w9)))))))))))))))))))
abbrev rm_X11_reign : Room := { frames := 4, cells := 0, slots := 0, locals := 100 }
theorem inX11_reign_X11 : ∀ w ∈ wsX110, w ∈ wsX11_reign := by decide +kernel
theorem mwX11_reign_1 : Cond.fieldLink RX11 10 "LadleKings" "rules" "LLadleKings$Rules;" ∈ wsX11_reign := by decide +kernel
theorem inX11_reign_X6 : ∀ w ∈ wsX60, w ∈ wsX11_reign := by decide +kernel
theorem mwX11_reign_3 : Cond.fieldLink RX11 133 "LadleKings$Rules" "stirs" "I" ∈ wsX11_reign := by decide +kernel
theorem mwX11_reign_4 : Cond.fieldLink RX11 60 "LadleKings" "plans" "LLadleKings$Plans;" ∈ wsX11_reign := by decide +kernel
theorem inX11_reign_X5 : ∀ w ∈ wsX50, w ∈ wsX11_reign := by decide +kernel
theorem mwX11_reign_6 : Cond.fieldLink RX11 228 "LadleKings$Plans" "row" "[I" ∈ wsX11_reign := by decide +kernel
set_option maxHeartbeats 8000000 in
set_option maxRecDepth 100000 in
theorem c_X11_reign (l : Launch) (D : va_G) (G : Nat → ClassId) (sz : Nat) (a_p0 : Nat) (a_p0_rules : Nat) (a_p0_state : Nat) (a_p0_tape : Nat) (a_p0_reader : Nat) (a_p0_kitchen : Nat) (a_p0_luck : Nat) (a_p0_plans : Nat) (a_p0_coups : Nat) (a_p0_past : Nat) (a_p0_fairDays : Nat) (a_p0_images : Nat) (a_p0_imageHeld : Nat) (a_p0_sheets : Nat) (a_p0_rules_need : Nat) (a_p0_rules_kind : Nat) (a_p0_rules_first : Nat) (a_p0_rules_second : Nat) (a_p0_rules_after : Nat) (a_p0_state_pieces : Nat) (a_p0_state_friends : Nat) (a_p0_state_spoons : Nat) (a_p0_state_eaten : Nat) (a_p0_state_seen : Nat) (a_p0_kitchen_places : Nat) (a_p0_kitchen_holders : Nat) (a_p0_kitchen_stirred : Nat) (a_p0_plans_good : Nat) (a_p0_plans_row : Nat) (i_p0_latestFault : Int) (i_p0_latestTear : Int) (i_p0_rules_seats : Int) (i_p0_rules_stirs : Int) (v_p0_rules_after : (Int → Int)) (i_p0_state_seenDays : Int) (i_p0_state_bone : Int) (i_p0_state_king : Int) (i_p0_state_days : Int) (v_p0_state_friends : (Int → Int)) (v_p0_kitchen_places : (Int → Int)) (v_p0_kitchen_holders : (Int → Int)) (v_p0_plans_good : (Int → Int)) (v_p0_plans_row : (Int → Int)) (x1 : Int) (x2 : Int) (r : Int) (o_v_p0_kitchen_places : (Int → Int)) (o_v_p0_kitchen_holders : (Int → Int)) (o_v_p0_plans_good : (Int → Int)) (o_v_p0_plans_row : (Int → Int)) (hf : f_X11_reign i_p0_rules_seats i_p0_rules_stirs v_p0_rules_after i_p0_state_bone i_p0_state_king v_p0_state_friends v_p0_kitchen_places v_p0_kitchen_holders v_p0_plans_good v_p0_plans_row x1 x2 = some (r, o_v_p0_kitchen_places, o_v_p0_kitchen_holders, o_v_p0_plans_good, o_v_p0_plans_row)) : Met l yX11_reign wsX11_reign rm_X11_reign (pcG D G [.ref a_p0, .int (Int32.ofInt x1), .int (Int32.ofInt x2)] sz [(a_p0, .inr (11, [.ref a_p0_rules, .ref a_p0_state, .ref a_p0_tape, .ref a_p0_reader, .ref a_p0_kitchen, .ref a_p0_luck, .ref a_p0_plans, .ref a_p0_coups, .ref a_p0_past, .ref a_p0_fairDays, .ref a_p0_images, .ref a_p0_imageHeld, .ref a_p0_sheets, .int (Int32.ofInt i_p0_latestFault), .int (Int32.ofInt i_p0_latestTear)])), (a_p0_rules, .inr (6, [.int (Int32.ofInt i_p0_rules_seats), .int (Int32.ofInt i_p0_rules_stirs), .ref a_p0_rules_need, .ref a_p0_rules_kind, .ref a_p0_rules_first, .ref a_p0_rules_second, .ref a_p0_rules_after])), (a_p0_rules_after, .inl (G 1, 35, .inl (zA v_p0_rules_after))), (a_p0_state, .inr (8, [.ref a_p0_state_pieces, .ref a_p0_state_friends, .ref a_p0_state_spoons, .ref a_p0_state_eaten, .ref a_p0_state_seen, .int (Int32.ofInt i_p0_state_seenDays), .int (Int32.ofInt i_p0_state_bone), .int (Int32.ofInt i_p0_state_king), .int (Int32.ofInt i_p0_state_days)])), (a_p0_state_friends, .inl (G 1, 7, .inl (zA v_p0_state_friends))), (a_p0_kitchen, .inr (2, [.ref a_p0_rules, .ref a_p0_state, .ref a_p0_kitchen_places, .ref a_p0_kitchen_holders, .ref a_p0_kitchen_stirred])), (a_p0_kitchen_places, .inl (G 1, 49, .inl (zA v_p0_kitchen_places))), (a_p0_kitchen_holders, .inl (G 1, 49, .inl (zA v_p0_kitchen_holders))), (a_p0_plans, .inr (5, [.ref a_p0_kitchen, .ref a_p0_plans_good, .ref a_p0_plans_row])), (a_p0_plans_good, .inl (G 2, 11, .inr (.inl (zL v_p0_plans_good)))), (a_p0_plans_row, .inl (G 1, 10, .inl (zA v_p0_plans_row)))]) (qcI D G (Int32.ofInt r) [(a_p0, .inr (11, [.ref a_p0_rules, .ref a_p0_state, .ref a_p0_tape, .ref a_p0_reader, .ref a_p0_kitchen, .ref a_p0_luck, .ref a_p0_plans, .ref a_p0_coups, .ref a_p0_past, .ref a_p0_fairDays, .ref a_p0_images, .ref a_p0_imageHeld, .ref a_p0_sheets, .int (Int32.ofInt i_p0_latestFault), .int (Int32.ofInt i_p0_latestTear)])), (a_p0_rules, .inr (6, [.int (Int32.ofInt i_p0_rules_seats), .int (Int32.ofInt i_p0_rules_stirs), .ref a_p0_rules_need, .ref a_p0_rules_kind, .ref a_p0_rules_first, .ref a_p0_rules_second, .ref a_p0_rules_after])), (a_p0_rules_after, .inl (G 1, 35, .inl (zA v_p0_rules_after))), (a_p0_state, .inr (8, [.ref a_p0_state_pieces, .ref a_p0_state_friends, .ref a_p0_state_spoons, .ref a_p0_state_eaten, .ref a_p0_state_seen, .int (Int32.ofInt i_p0_state_seenDays), .int (Int32.ofInt i_p0_state_bone), .int (Int32.ofInt i_p0_state_king), .int (Int32.ofInt i_p0_state_days)])), (a_p0_state_friends, .inl (G 1, 7, .inl (zA v_p0_state_friends))), (a_p0_kitchen, .inr (2, [.ref a_p0_rules, .ref a_p0_state, .ref a_p0_kitchen_places, .ref a_p0_kitchen_holders, .ref a_p0_kitchen_stirred])), (a_p0_kitchen_places, .inl (G 1, 49, .inl (zA o_v_p0_kitchen_places))), (a_p0_kitchen_holders, .inl (G 1, 49, .inl (zA o_v_p0_kitchen_holders))), (a_p0_plans, .inr (5, [.ref a_p0_kitchen, .ref a_p0_plans_good, .ref a_p0_plans_row])), (a_p0_plans_good, .inl (G 2, 11, .inr (.inl (zL o_v_p0_plans_good)))), (a_p0_plans_row, .inl (G 1, 10, .inl (zA o_v_p0_plans_row)))] (va_A [(a_p0, .inr (11, [.ref a_p0_rules, .ref a_p0_state, .ref a_p0_tape, .ref a_p0_reader, .ref a_p0_kitchen, .ref a_p0_luck, .ref a_p0_plans, .ref a_p0_coups, .ref a_p0_past, .ref a_p0_fairDays, .ref a_p0_images, .ref a_p0_imageHeld, .ref a_p0_sheets, .int (Int32.ofInt i_p0_latestFault), .int (Int32.ofInt i_p0_latestTear)])), (a_p0_rules, .inr (6, [.int (Int32.ofInt i_p0_rules_seats), .int (Int32.ofInt i_p0_rules_stirs), .ref a_p0_rules_need, .ref a_p0_rules_kind, .ref a_p0_rules_first, .ref a_p0_rules_second, .ref a_p0_rules_after])), (a_p0_rules_after, .inl (G 1, 35, .inl (zA v_p0_rules_after))), (a_p0_state, .inr (8, [.ref a_p0_state_pieces, .ref a_p0_state_friends, .ref a_p0_state_spoons, .ref a_p0_state_eaten, .ref a_p0_state_seen, .int (Int32.ofInt i_p0_state_seenDays), .int (Int32.ofInt i_p0_state_bone), .int (Int32.ofInt i_p0_state_king), .int (Int32.ofInt i_p0_state_days)])), (a_p0_state_friends, .inl (G 1, 7, .inl (zA v_p0_state_friends))), (a_p0_kitchen, .inr (2, [.ref a_p0_rules, .ref a_p0_state, .ref a_p0_kitchen_places, .ref a_p0_kitchen_holders, .ref a_p0_kitchen_stirred])), (a_p0_kitchen_places, .inl (G 1, 49, .inl (zA v_p0_kitchen_places))), (a_p0_kitchen_holders, .inl (G 1, 49, .inl (zA v_p0_kitchen_holders))), (a_p0_plans, .inr (5, [.ref a_p0_kitchen, .ref a_p0_plans_good, .ref a_p0_plans_row])), (a_p0_plans_good, .inl (G 2, 11, .inr (.inl (zL v_p0_plans_good)))), (a_p0_plans_row, .inl (G 1, 10, .inl (zA v_p0_plans_row)))] sz)) 0 0 (va_A [(a_p0, .inr (11, [.ref a_p0_rules, .ref a_p0_state, .ref a_p0_tape, .ref a_p0_reader, .ref a_p0_kitchen, .ref a_p0_luck, .ref a_p0_plans, .ref a_p0_coups, .ref a_p0_past, .ref a_p0_fairDays, .ref a_p0_images, .ref a_p0_imageHeld, .ref a_p0_sheets, .int (Int32.ofInt i_p0_latestFault), .int (Int32.ofInt i_p0_latestTear)])), (a_p0_rules, .inr (6, [.int (Int32.ofInt i_p0_rules_seats), .int (Int32.ofInt i_p0_rules_stirs), .ref a_p0_rules_need, .ref a_p0_rules_kind, .ref a_p0_rules_first, .ref a_p0_rules_second, .ref a_p0_rules_after])), (a_p0_rules_after, .inl (G 1, 35, .inl (zA v_p0_rules_after))), (a_p0_state, .inr (8, [.ref a_p0_state_pieces, .ref a_p0_state_friends, .ref a_p0_state_spoons, .ref a_p0_state_eaten, .ref a_p0_state_seen, .int (Int32.ofInt i_p0_state_seenDays), .int (Int32.ofInt i_p0_state_bone), .int (Int32.ofInt i_p0_state_king), .int (Int32.ofInt i_p0_state_days)])), (a_p0_state_friends, .inl (G 1, 7, .inl (zA v_p0_state_friends))), (a_p0_kitchen, .inr (2, [.ref a_p0_rules, .ref a_p0_state, .ref a_p0_kitchen_places, .ref a_p0_kitchen_holders, .ref a_p0_kitchen_stirred])), (a_p0_kitchen_places, .inl (G 1, 49, .inl (zA v_p0_kitchen_places))), (a_p0_kitchen_holders, .inl (G 1, 49, .inl (zA v_p0_kitchen_holders))), (a_p0_plans, .inr (5, [.ref a_p0_kitchen, .ref a_p0_plans_good, .ref a_p0_plans_row])), (a_p0_plans_good, .inl (G 2, 11, .inr (.inl (zL v_p0_plans_good)))), (a_p0_plans_row, .inl (G 1, 10, .inl (zA v_p0_plans_row)))] sz) := by
  refine Met.ofW (cc := cX11_reign) (maxL := 4) (ret := (some .int)) (by decide) rfl ?_
  intro p e s m args below meth c s₁ B hml hv
  obtain ⟨rfl, hsz, hP, hK, hD0⟩ := hv
  have hx := B.exec
  have hb := B.bytes
  have hr := B.returns
  have hts := atoms_spec (ws := wsX11_reign) B.pre
  have hown : s.vm.findClass RX11 = some m.cls := findClass_of_methodNamed B.named
  have hlocks := B.notSynchronized
  subst hsz
  have hD := hD0.self (sz := s.heap.size)
  generalize hAe : va_A [(a_p0, .inr (11, [.ref a_p0_rules, .ref a_p0_state, .ref a_p0_tape, .ref a_p0_reader, .ref a_p0_kitchen, .ref a_p0_luck, .ref a_p0_plans, .ref a_p0_coups, .ref a_p0_past, .ref a_p0_fairDays, .ref a_p0_images, .ref a_p0_imageHeld, .ref a_p0_sheets, .int (Int32.ofInt i_p0_latestFault), .int (Int32.ofInt i_p0_latestTear)])), (a_p0_rules, .inr (6, [.int (Int32.ofInt i_p0_rules_seats), .int (Int32.ofInt i_p0_rules_stirs), .ref a_p0_rules_need, .ref a_p0_rules_kind, .ref a_p0_rules_first, .ref a_p0_rules_second, .ref a_p0_rules_after])), (a_p0_rules_after, .inl (G 1, 35, .inl (zA v_p0_rules_after))), (a_p0_state, .inr (8, [.ref a_p0_state_pieces, .ref a_p0_state_friends, .ref a_p0_state_spoons, .ref a_p0_state_eaten, .ref a_p0_state_seen, .int (Int32.ofInt i_p0_state_seenDays), .int (Int32.ofInt i_p0_state_bone), .int (Int32.ofInt i_p0_state_king), .int (Int32.ofInt i_p0_state_days)])), (a_p0_state_friends, .inl (G 1, 7, .inl (zA v_p0_state_friends))), (a_p0_kitchen, .inr (2, [.ref a_p0_rules, .ref a_p0_state, .ref a_p0_kitchen_places, .ref a_p0_kitchen_holders, .ref a_p0_kitchen_stirred])), (a_p0_kitchen_places, .inl (G 1, 49, .inl (zA v_p0_kitchen_places))), (a_p0_kitchen_holders, .inl (G 1, 49, .inl (zA v_p0_kitchen_holders))), (a_p0_plans, .inr (5, [.ref a_p0_kitchen, .ref a_p0_plans_good, .ref a_p0_plans_row])), (a_p0_plans_good, .inl (G 2, 11, .inr (.inl (zL v_p0_plans_good)))), (a_p0_plans_row, .inl (G 1, 10, .inl (zA v_p0_plans_row)))] s.heap.size = A at hD ⊢
  have hA : ∀ q : Nat, s.heap.size ≤ q → A q := fun q h => by rw [← hAe]; exact Or.inr h
  clear hAe hD0
  have hS : va_S A s.heap s.heap [] := va_S.rf
  have hl := lv_entry ([.ref a_p0, .int (Int32.ofInt x1), .int (Int32.ofInt x2)]) (n := 4) (Nat.le_of_ble_eq_true rfl)
  rw [lg_entry_eq]
  generalize (lg_sl ([.ref a_p0, .int (Int32.ofInt x1), .int (Int32.ofInt x2)]) ++ List.replicate (4 - (lg_sl ([.ref a_p0, .int (Int32.ofInt x1), .int (Int32.ofInt x2)])).length) Slot.unset).toArray = ls at hl ⊢
  have hl : lv_has ls 4 [(0, .ref a_p0), (1, .int (Int32.ofInt x1)), (2, .int (Int32.ofInt x2))] := hl
  refine W_nameQ (fun Q hQ => ?_)
  obtain ⟨H, hH⟩ : ∃ H, H = s.heap := ⟨_, rfl⟩
  replace hS : va_S A s.heap H [] := by rw [hH]; exact hS
  replace hP : va_P D vwCl [(a_p0, .inr (11, [.ref a_p0_rules, .ref a_p0_state, .ref a_p0_tape, .ref a_p0_reader, .ref a_p0_kitchen, .ref a_p0_luck, .ref a_p0_plans, .ref a_p0_coups, .ref a_p0_past, .ref a_p0_fairDays, .ref a_p0_images, .ref a_p0_imageHeld, .ref a_p0_sheets, .int (Int32.ofInt i_p0_latestFault), .int (Int32.ofInt i_p0_latestTear)])), (a_p0_rules, .inr (6, [.int (Int32.ofInt i_p0_rules_seats), .int (Int32.ofInt i_p0_rules_stirs), .ref a_p0_rules_need, .ref a_p0_rules_kind, .ref a_p0_rules_first, .ref a_p0_rules_second, .ref a_p0_rules_after])), (a_p0_rules_after, .inl (G 1, 35, .inl (zA v_p0_rules_after))), (a_p0_state, .inr (8, [.ref a_p0_state_pieces, .ref a_p0_state_friends, .ref a_p0_state_spoons, .ref a_p0_state_eaten, .ref a_p0_state_seen, .int (Int32.ofInt i_p0_state_seenDays), .int (Int32.ofInt i_p0_state_bone), .int (Int32.ofInt i_p0_state_king), .int (Int32.ofInt i_p0_state_days)])), (a_p0_state_friends, .inl (G 1, 7, .inl (zA v_p0_state_friends))), (a_p0_kitchen, .inr (2, [.ref a_p0_rules, .ref a_p0_state, .ref a_p0_kitchen_places, .ref a_p0_kitchen_holders, .ref a_p0_kitchen_stirred])), (a_p0_kitchen_places, .inl (G 1, 49, .inl (zA v_p0_kitchen_places))), (a_p0_kitchen_holders, .inl (G 1, 49, .inl (zA v_p0_kitchen_holders))), (a_p0_plans, .inr (5, [.ref a_p0_kitchen, .ref a_p0_plans_good, .ref a_p0_plans_row])), (a_p0_plans_good, .inl (G 2, 11, .inr (.inl (zL v_p0_plans_good)))), (a_p0_plans_row, .inl (G 1, 10, .inl (zA v_p0_plans_row)))] H := by rw [hH]; exact hP
  rw [← hH]
  clear hH
  unfold f_X11_reign at hf
  refine lv_iload_n hx hb dX11_reign_0 rfl (lv_at hl 1 rfl) ?_
  refine lv_iconst (v := Int32.ofInt (1 : Int)) hx hb dX11_reign_1 (by decide) ?_
  have hr0 := ck_c hf
  replace hf := ck_r hf
  refine lv_icmp_lt (tgt := 20) hx hb dX11_reign_2 (by decide) (fun cc => ?_) (fun cc => ?_)
  ·
    replace hf := ite_t ((z_lt hr0 (by decide)).mp cc) hf
    clear cc
    refine lv_iconst (v := Int32.ofInt (-1 : Int)) hx hb dX11_reign_20 (by decide) ?_
    obtain ⟨rfl, rfl, rfl, rfl, rfl⟩ := ou5 hf
    rw [hQ]
    exact W.iret hx hb hr (fun t ht hW => ⟨⟨_, (), rfl, rfl, by rw [ht]; exact hP, va_K.moved hW.alike hK, hD⟩, hS.F ht⟩) hS.2.2 dX11_reign_21
  ·
    replace hf := ite_f (fun h9 => cc ((z_lt hr0 (by decide)).mpr h9)) hf
    clear cc
    refine lv_iload_n hx hb dX11_reign_5 rfl (lv_at hl 1 rfl) ?_
    refine lv_bipush (v := Int32.ofInt (10 : Int)) hx hb dX11_reign_6 (by decide) ?_
    refine lv_icmp_gt (tgt := 20) hx hb dX11_reign_8 (by decide) (fun cc => ?_) (fun cc => ?_)
    ·
      replace hf := ite_t ((z_lt (by decide) hr0).mp cc) hf
      clear cc
      refine lv_iconst (v := Int32.ofInt (-1 : Int)) hx hb dX11_reign_20 (by decide) ?_
      obtain ⟨rfl, rfl, rfl, rfl, rfl⟩ := ou5 hf
      rw [hQ]
      exact W.iret hx hb hr (fun t ht hW => ⟨⟨_, (), rfl, rfl, by rw [ht]; exact hP, va_K.moved hW.alike hK, hD⟩, hS.F ht⟩) hS.2.2 dX11_reign_21
    ·
      replace hf := ite_f (fun h9 => cc ((z_lt (by decide) hr0).mpr h9)) hf
      clear cc
      refine lv_iload_n hx hb dX11_reign_11 rfl (lv_at hl 2 rfl) ?_
      refine lv_bipush (v := Int32.ofInt (10 : Int)) hx hb dX11_reign_12 (by decide) ?_
      have hq := bd1_s hf
      clear hf
      obtain ⟨z2, hcall, hf⟩ := hq
      refine gcI (ws' := [(a_p0, .inr (11, [.ref a_p0_rules, .ref a_p0_state, .ref a_p0_tape, .ref a_p0_reader, .ref a_p0_kitchen, .ref a_p0_luck, .ref a_p0_plans, .ref a_p0_coups, .ref a_p0_past, .ref a_p0_fairDays, .ref a_p0_images, .ref a_p0_imageHeld, .ref a_p0_sheets, .int (Int32.ofInt i_p0_latestFault), .int (Int32.ofInt i_p0_latestTear)])), (a_p0_rules, .inr (6, [.int (Int32.ofInt i_p0_rules_seats), .int (Int32.ofInt i_p0_rules_stirs), .ref a_p0_rules_need, .ref a_p0_rules_kind, .ref a_p0_rules_first, .ref a_p0_rules_second, .ref a_p0_rules_after])), (a_p0_rules_after, .inl (G 1, 35, .inl (zA v_p0_rules_after))), (a_p0_state, .inr (8, [.ref a_p0_state_pieces, .ref a_p0_state_friends, .ref a_p0_state_spoons, .ref a_p0_state_eaten, .ref a_p0_state_seen, .int (Int32.ofInt i_p0_state_seenDays), .int (Int32.ofInt i_p0_state_bone), .int (Int32.ofInt i_p0_state_king), .int (Int32.ofInt i_p0_state_days)])), (a_p0_state_friends, .inl (G 1, 7, .inl (zA v_p0_state_friends))), (a_p0_kitchen, .inr (2, [.ref a_p0_rules, .ref a_p0_state, .ref a_p0_kitchen_places, .ref a_p0_kitchen_holders, .ref a_p0_kitchen_stirred])), (a_p0_kitchen_places, .inl (G 1, 49, .inl (zA v_p0_kitchen_places))), (a_p0_kitchen_holders, .inl (G 1, 49, .inl (zA v_p0_kitchen_holders))), (a_p0_plans, .inr (5, [.ref a_p0_kitchen, .ref a_p0_plans_good, .ref a_p0_plans_row])), (a_p0_plans_good, .inl (G 2, 11, .inr (.inl (zL v_p0_plans_good)))), (a_p0_plans_row, .inl (G 1, 10, .inl (zA v_p0_plans_row)))]) (va_runS (As := [.int (Int32.ofInt x2), .int (Int32.ofInt (10 : Int))]) (rest := []) ⟨hx, hb, hml, hown, hts⟩ (c_X11_isRowQuestion (l := l) (D := D) (G := G) (sz := H.size) (x0 := x2) (x1 := (10 : Int)) (r := z2) (hf := hcall)) (va_cwS 2 hts gX11_reign_X11_isRowQuestion rfl rfl rfl (by decide +kernel) ⟨Nat.le_of_ble_eq_true rfl, Nat.le_of_ble_eq_true rfl⟩) (preG_S (hP.sub [] rfl) (hD.sub [] rfl rfl) hK) rfl rfl hl.1 rfl (lv_room (Nat.le_of_ble_eq_true rfl)) dX11_reign_14 ⟨Nat.le_of_ble_eq_true rfl, Nat.le_of_ble_eq_true rfl⟩) hP hD hS hA [] [0, 1, 2, 3, 4, 5, 6, 7, 8, 9, 10] [0, 1, 2, 3, 4, 5, 6, 7, 8, 9, 10] rfl rfl rfl (by decide) rfl rfl rfl (fun H locs hP hD hS => ?_)
      clear hcall
      have hr2 := ck_c hf
      replace hf := ck_r hf
      refine lv_if_ne (tgt := 22) hx hb dX11_reign_17 (by decide) (fun cc => ?_) (fun cc => ?_)
      ·
        replace hf := ite_f (fun h9 => cc ((z_eq0 hr2).mpr h9)) hf
        clear cc
        refine lv_aload_n hx hb dX11_reign_22 rfl (lv_at hl 0 rfl) ?_
        refine va_get (D := D) (ci := 11) (v := .ref a_p0_rules) (C := RX11) (T := TX11) (N := 15) hx hb hts inX11_reign_X11 hown hK hP 0 rfl rfl 0 (by decide) (hts _ mwX11_reign_1) (fun _ h9 => h9) rfl dX11_reign_23 ?_
        refine va_get (D := D) (ci := 6) (v := .int (Int32.ofInt i_p0_rules_stirs)) (C := RX6) (T := TX6) (N := 7) hx hb hts inX11_reign_X6 hown hK hP 1 rfl rfl 1 (by decide) (hts _ mwX11_reign_3) (fun _ h9 => h9) rfl dX11_reign_26 ?_
        have hr3 := ck_c hf
        replace hf := ck_r hf
        refine lv_if_ne (tgt := 35) hx hb dX11_reign_29 (by decide) (fun cc => ?_) (fun cc => ?_)
        ·
          replace hf := ite_f (fun h9 => cc ((z_eq0 hr3).mpr h9)) hf
          clear cc
          refine lv_aload_n hx hb dX11_reign_35 rfl (lv_at hl 0 rfl) ?_
          refine va_get (D := D) (ci := 11) (v := .ref a_p0_plans) (C := RX11) (T := TX11) (N := 15) hx hb hts inX11_reign_X11 hown hK hP 0 rfl rfl 6 (by decide) (hts _ mwX11_reign_4) (fun _ h9 => h9) rfl dX11_reign_36 ?_
          refine lv_iload_n hx hb dX11_reign_39 rfl (lv_at hl 1 rfl) ?_
          have hq := bd5_s hf
          clear hf
          obtain ⟨z5, w6, w7, w8, w9, hcall, hf⟩ := hq
          refine gcI (ws' := [(a_p0, .inr (11, [.ref a_p0_rules, .ref a_p0_state, .ref a_p0_tape, .ref a_p0_reader, .ref a_p0_kitchen, .ref a_p0_luck, .ref a_p0_plans, .ref a_p0_coups, .ref a_p0_past, .ref a_p0_fairDays, .ref a_p0_images, .ref a_p0_imageHeld, .ref a_p0_sheets, .int (Int32.ofInt i_p0_latestFault), .int (Int32.ofInt i_p0_latestTear)])), (a_p0_rules, .inr (6, [.int (Int32.ofInt i_p0_rules_seats), .int (Int32.ofInt i_p0_rules_stirs), .ref a_p0_rules_need, .ref a_p0_rules_kind, .ref a_p0_rules_first, .ref a_p0_rules_second, .ref a_p0_rules_after])), (a_p0_rules_after, .inl (G 1, 35, .inl (zA v_p0_rules_after))), (a_p0_state, .inr (8, [.ref a_p0_state_pieces, .ref a_p0_state_friends, .ref a_p0_state_spoons, .ref a_p0_state_eaten, .ref a_p0_state_seen, .int (Int32.ofInt i_p0_state_seenDays), .int (Int32.ofInt i_p0_state_bone), .int (Int32.ofInt i_p0_state_king), .int (Int32.ofInt i_p0_state_days)])), (a_p0_state_friends, .inl (G 1, 7, .inl (zA v_p0_state_friends))), (a_p0_kitchen, .inr (2, [.ref a_p0_rules, .ref a_p0_state, .ref a_p0_kitchen_places, .ref a_p0_kitchen_holders, .ref a_p0_kitchen_stirred])), (a_p0_kitchen_places, .inl (G 1, 49, .inl (zA w6))), (a_p0_kitchen_holders, .inl (G 1, 49, .inl (zA w7))), (a_p0_plans, .inr (5, [.ref a_p0_kitchen, .ref a_p0_plans_good, .ref a_p0_plans_row])), (a_p0_plans_good, .inl (G 2, 11, .inr (.inl (zL w8)))), (a_p0_plans_row, .inl (G 1, 10, .inl (zA w9)))]) (va_runV (As := [.int (Int32.ofInt x1)]) (rest := []) ⟨hx, hb, hml, hown, hts⟩ (c_X5_planReign (l := l) (D := D) (G := G) (sz := H.size) (a_p0 := a_p0_plans) (a_p0_kitchen := a_p0_kitchen) (a_p0_good := a_p0_plans_good) (a_p0_row := a_p0_plans_row) (a_p0_kitchen_rules := a_p0_rules) (a_p0_kitchen_state := a_p0_state) (a_p0_kitchen_places := a_p0_kitchen_places) (a_p0_kitchen_holders := a_p0_kitchen_holders) (a_p0_kitchen_stirred := a_p0_kitchen_stirred) (a_p0_kitchen_rules_need := a_p0_rules_need) (a_p0_kitchen_rules_kind := a_p0_rules_kind) (a_p0_kitchen_rules_first := a_p0_rules_first) (a_p0_kitchen_rules_second := a_p0_rules_second) (a_p0_kitchen_rules_after := a_p0_rules_after) (a_p0_kitchen_state_pieces := a_p0_state_pieces) (a_p0_kitchen_state_friends := a_p0_state_friends) (a_p0_kitchen_state_spoons := a_p0_state_spoons) (a_p0_kitchen_state_eaten := a_p0_state_eaten) (a_p0_kitchen_state_seen := a_p0_state_seen) (i_p0_kitchen_rules_seats := i_p0_rules_seats) (i_p0_kitchen_rules_stirs := i_p0_rules_stirs) (v_p0_kitchen_rules_after := v_p0_rules_after) (i_p0_kitchen_state_seenDays := i_p0_state_seenDays) (i_p0_kitchen_state_bone := i_p0_state_bone) (i_p0_kitchen_state_king := i_p0_state_king) (i_p0_kitchen_state_days := i_p0_state_days) (v_p0_kitchen_state_friends := v_p0_state_friends) (v_p0_kitchen_places := v_p0_kitchen_places) (v_p0_kitchen_holders := v_p0_kitchen_holders) (v_p0_good := v_p0_plans_good) (v_p0_row := v_p0_plans_row) (x1 := x1) (r := z5) (o_v_p0_kitchen_places := w6) (o_v_p0_kitchen_holders := w7) (o_v_p0_good := w8) (o_v_p0_row := w9) (hf := hcall)) (cwV 1 hts gX11_reign_X5_planReign rfl rfl rfl (by decide +kernel) ⟨Nat.le_of_ble_eq_true rfl, Nat.le_of_ble_eq_true rfl⟩) (preG_V (ci := 5) (hP.sub [8, 5, 1, 2, 3, 4, 6, 7, 9, 10] rfl) (hD.sub [8, 5, 1, 2, 3, 4, 6, 7, 9, 10] rfl rfl) hK rfl rfl) rfl rfl hl.1 rfl (lv_room (Nat.le_of_ble_eq_true rfl)) dX11_reign_40 ⟨Nat.le_of_ble_eq_true rfl, Nat.le_of_ble_eq_true rfl⟩) hP hD hS hA [8, 5, 1, 2, 3, 4, 6, 7, 9, 10] [0] [0, 3, 4, 5, 6, 2, 7, 8, 1, 9, 10] rfl rfl rfl (by decide) rfl rfl rfl (fun H locs hP hD hS => ?_)
          clear hcall
          refine z_topi (fun z10 ez => ?_)
          replace hf := bnd_s hf ez
          clear ez
          refine lv_istore_n (lv' := [(3, .int (Int32.ofInt z10)), (0, .ref a_p0), (1, .int (Int32.ofInt x1)), (2, .int (Int32.ofInt x2))]) hx hb dX11_reign_43 rfl hl (by decide) rfl (fun ls hl => ?_)
          refine lv_iload_n hx hb dX11_reign_44 rfl (lv_at hl 3 rfl) ?_
          have hr10 := ck_c hf
          replace hf := ck_r hf
          refine lv_if_ne (tgt := 52) hx hb dX11_reign_45 (by decide) (fun cc => ?_) (fun cc => ?_)
          ·
            replace hf := ite_f (fun h9 => cc ((z_eq0 hr10).mpr h9)) hf
            clear cc
            refine lv_aload_n hx hb dX11_reign_52 rfl (lv_at hl 1 rfl) ?_
            refine va_get (D := D) (ci := 11) (v := .ref a_p0_plans) (C := RX11) (T := TX11) (N := 15) hx hb hts inX11_reign_X11 hown hK hP 0 rfl rfl 6 (by decide) (hts _ mwX11_reign_4) (fun _ h9 => h9) rfl dX11_reign_53 ?_
            refine va_get (D := D) (ci := 5) (v := .ref a_p0_plans_row) (C := RX5) (T := TX5) (N := 3) hx hb hts inX11_reign_X5 hown hK hP 8 rfl rfl 2 (by decide) (hts _ mwX11_reign_6) (fun _ h9 => h9) rfl dX11_reign_56 ?_
            refine lv_iload_n hx hb dX11_reign_59 rfl (lv_at hl 0 rfl) ?_
            refine lv_iload_n hx hb dX11_reign_60 rfl (lv_at hl 3 rfl) ?_
            refine lv_bipush (v := Int32.ofInt (10 : Int)) hx hb dX11_reign_61 (by decide) ?_
            refine lv_isub hx hb dX11_reign_63 (z_ci (Int32.ofInt_sub x2 (10 : Int)) ?_)
            have hq := bd1_s hf
            clear hf
            obtain ⟨z12, hcall, hf⟩ := hq
            refine gcI (ws' := [(a_p0, .inr (11, [.ref a_p0_rules, .ref a_p0_state, .ref a_p0_tape, .ref a_p0_reader, .ref a_p0_kitchen, .ref a_p0_luck, .ref a_p0_plans, .ref a_p0_coups, .ref a_p0_past, .ref a_p0_fairDays, .ref a_p0_images, .ref a_p0_imageHeld, .ref a_p0_sheets, .int (Int32.ofInt i_p0_latestFault), .int (Int32.ofInt i_p0_latestTear)])), (a_p0_rules, .inr (6, [.int (Int32.ofInt i_p0_rules_seats), .int (Int32.ofInt i_p0_rules_stirs), .ref a_p0_rules_need, .ref a_p0_rules_kind, .ref a_p0_rules_first, .ref a_p0_rules_second, .ref a_p0_rules_after])), (a_p0_rules_after, .inl (G 1, 35, .inl (zA v_p0_rules_after))), (a_p0_state, .inr (8, [.ref a_p0_state_pieces, .ref a_p0_state_friends, .ref a_p0_state_spoons, .ref a_p0_state_eaten, .ref a_p0_state_seen, .int (Int32.ofInt i_p0_state_seenDays), .int (Int32.ofInt i_p0_state_bone), .int (Int32.ofInt i_p0_state_king), .int (Int32.ofInt i_p0_state_days)])), (a_p0_state_friends, .inl (G 1, 7, .inl (zA v_p0_state_friends))), (a_p0_kitchen, .inr (2, [.ref a_p0_rules, .ref a_p0_state, .ref a_p0_kitchen_places, .ref a_p0_kitchen_holders, .ref a_p0_kitchen_stirred])), (a_p0_kitchen_places, .inl (G 1, 49, .inl (zA w6))), (a_p0_kitchen_holders, .inl (G 1, 49, .inl (zA w7))), (a_p0_plans, .inr (5, [.ref a_p0_kitchen, .ref a_p0_plans_good, .ref a_p0_plans_row])), (a_p0_plans_good, .inl (G 2, 11, .inr (.inl (zL w8)))), (a_p0_plans_row, .inl (G 1, 10, .inl (zA w9)))]) (va_runS (As := [.ref a_p0_plans_row, .int (Int32.ofInt z10), .int (Int32.ofInt (x2 - (10 : Int)))]) (rest := []) ⟨hx, hb, hml, hown, hts⟩ (c_X11_ofRow (l := l) (D := D) (G := G) (sz := H.size) (a_p0 := a_p0_plans_row) (n_p0 := 10) (v_p0 := w9) (x1 := z10) (x2 := (x2 - (10 : Int))) (r := z12) (hf := hcall)) (va_cwS 3 hts gX11_reign_X11_ofRow rfl rfl rfl (by decide +kernel) ⟨Nat.le_of_ble_eq_true rfl, Nat.le_of_ble_eq_true rfl⟩) (preG_S (hP.sub [10] rfl) (hD.sub [10] rfl rfl) hK) rfl rfl hl.1 rfl (lv_room (Nat.le_of_ble_eq_true rfl)) dX11_reign_64 ⟨Nat.le_of_ble_eq_true rfl, Nat.le_of_ble_eq_true rfl⟩) hP hD hS hA [10] [0, 1, 2, 3, 4, 5, 6, 7, 8, 9] [0, 1, 2, 3, 4, 5, 6, 7, 8, 9, 10] rfl rfl rfl (by decide) rfl rfl rfl (fun H locs hP hD hS => ?_)
            clear hcall
            obtain ⟨rfl, rfl, rfl, rfl, rfl⟩ := ou5 hf
            rw [hQ]
            exact W.iret hx hb hr (fun t ht hW => ⟨⟨_, (), rfl, rfl, by rw [ht]; exact hP, va_K.moved hW.alike hK, hD⟩, hS.F ht⟩) hS.2.2 dX11_reign_67
          ·
            replace hf := ite_t ((z_eq0 hr10).mp cc) hf
            clear cc
            refine lv_iload_n hx hb dX11_reign_48 rfl (lv_at hl 0 rfl) ?_
            refine lv_goto (tgt := 67) hx hb dX11_reign_49 (by decide) ?_
            obtain ⟨rfl, rfl, rfl, rfl, rfl⟩ := ou5 hf
            rw [hQ]
            exact W.iret hx hb hr (fun t ht hW => ⟨⟨_, (), rfl, rfl, by rw [ht]; exact hP, va_K.moved hW.alike hK, hD⟩, hS.F ht⟩) hS.2.2 dX11_reign_67
        ·
          replace hf := ite_t ((z_eq0 hr3).mp cc) hf
          clear cc
          refine lv_bipush (v := Int32.ofInt (-2 : Int)) hx hb dX11_reign_32 (by decide) ?_
          obtain ⟨rfl, rfl, rfl, rfl, rfl⟩ := ou5 hf
          rw [hQ]
          exact W.iret hx hb hr (fun t ht hW => ⟨⟨_, (), rfl, rfl, by rw [ht]; exact hP, va_K.moved hW.alike hK, hD⟩, hS.F ht⟩) hS.2.2 dX11_reign_34
      ·
        replace hf := ite_t ((z_eq0 hr2).mp cc) hf
        clear cc
        refine lv_iconst (v := Int32.ofInt (-1 : Int)) hx hb dX11_reign_20 (by decide) ?_
        obtain ⟨rfl, rfl, rfl, rfl, rfl⟩ := ou5 hf
        rw [hQ]
        exact W.iret hx hb hr (fun t ht hW => ⟨⟨_, (), rfl, rfl, by rw [ht]; exact hP, va_K.moved hW.alike hK, hD⟩, hS.F ht⟩) hS.2.2 dX11_reign_21

noncomputable def f_X11_raise (i_p0_rules_seats : Int) (i_p0_rules_stirs : Int) (v_p0_rules_after : (Int → Int)) (i_p0_state_bone : Int) (i_p0_state_king : Int) (v_p0_state_friends : (Int → Int)) (v_p0_kitchen_places : (Int → Int)) (v_p0_kitchen_holders : (Int → Int)) (v_p0_plans_good : (Int → Int)) (v_p0_plans_row : (Int → Int)) (x1 : Int) (x2 : Int) : Option (Int × (Int → Int) × (Int → Int) × (Int → Int) × (Int → Int)) := (bd1 (f_X6_hasSeat i_p0_rules_seats x1) (fun (z1 : Int) => (ck (z_r32 z1) (if z1 = (0 : Int) then (some ((-1 : Int), v_p0_kitchen_places, v_p0_kitchen_holders, v_p0_plans_good, v_p0_plans_row)) else (bd1 (f_X11_isRowQuestion x2 (10 : Int)) (fun (z3 : Int) => (ck (z_r32 z3) (if z3 = (0 : Int) then (some ((-1 : Int), v_p0_kitchen_places, v_p0_kitchen_holders, v_p0_plans_good, v_p0_plans_row)) else (ck (z_r32 i_p0_rules_stirs) (if i_p0_rules_stirs = (0 : Int) then (some ((-2 : Int), v_p0_kitchen_places, v_p0_kitchen_holders, v_p0_plans_good, v_p0_plans_row)) else (bd5 (f_X5_planRaise i_p0_rules_seats i_p0_rules_stirs v_p0_rules_after i_p0_state_bone i_p0_state_king v_p0_state_friends v_p0_kitchen_places v_p0_kitchen_holders v_p0_plans_good v_p0_plans_row x1) (fun (z6 : Int) (w7 : (Int → Int)) (w8 : (Int → Int)) (w9 : (Int → Int)) (w10 : (Int → Int)) => (bnd z6 (fun (z11 : Int) => (ck (z_r32 x2) (if x2 = (0 : Int) then (some (z11, w7, w8, w9, w10)) else (bd1 (f_X11_ofRow 10 w10 z11 (x2 - (10 : Int))) (fun (z13 : Int) => (some (z13, w7, w8, w9, w10))))))))))))))))))))
abbrev rm_X11_raise : Room := { frames := 4, cells := 0, slots := 0, locals := 99 }
theorem inX11_raise_X11 : ∀ w ∈ wsX110, w ∈ wsX11_raise := by decide +kernel
theorem mwX11_raise_1 : Cond.fieldLink RX11 10 "LadleKings" "rules" "LLadleKings$Rules;" ∈ wsX11_raise := by decide +kernel
theorem inX11_raise_X6 : ∀ w ∈ wsX60, w ∈ wsX11_raise := by decide +kernel
theorem mwX11_raise_3 : Cond.fieldLink RX11 133 "LadleKings$Rules" "stirs" "I" ∈ wsX11_raise := by decide +kernel
theorem mwX11_raise_4 : Cond.fieldLink RX11 60 "LadleKings" "plans" "LLadleKings$Plans;" ∈ wsX11_raise := by decide +kernel
theorem inX11_raise_X5 : ∀ w ∈ wsX50, w ∈ wsX11_raise := by decide +kernel
theorem mwX11_raise_6 : Cond.fieldLink RX11 228 "LadleKings$Plans" "row" "[I" ∈ wsX11_raise := by decide +kernel
set_option maxHeartbeats 8000000 in
set_option maxRecDepth 100000 in
theorem c_X11_raise (l : Launch) (D : va_G) (G : Nat → ClassId) (sz : Nat) (a_p0 : Nat) (a_p0_rules : Nat) (a_p0_state : Nat) (a_p0_tape : Nat) (a_p0_reader : Nat) (a_p0_kitchen : Nat) (a_p0_luck : Nat) (a_p0_plans : Nat) (a_p0_coups : Nat) (a_p0_past : Nat) (a_p0_fairDays : Nat) (a_p0_images : Nat) (a_p0_imageHeld : Nat) (a_p0_sheets : Nat) (a_p0_rules_need : Nat) (a_p0_rules_kind : Nat) (a_p0_rules_first : Nat) (a_p0_rules_second : Nat) (a_p0_rules_after : Nat) (a_p0_state_pieces : Nat) (a_p0_state_friends : Nat) (a_p0_state_spoons : Nat) (a_p0_state_eaten : Nat) (a_p0_state_seen : Nat) (a_p0_kitchen_places : Nat) (a_p0_kitchen_holders : Nat) (a_p0_kitchen_stirred : Nat) (a_p0_plans_good : Nat) (a_p0_plans_row : Nat) (i_p0_latestFault : Int) (i_p0_latestTear : Int) (i_p0_rules_seats : Int) (i_p0_rules_stirs : Int) (v_p0_rules_after : (Int → Int)) (i_p0_state_seenDays : Int) (i_p0_state_bone : Int) (i_p0_state_king : Int) (i_p0_state_days : Int) (v_p0_state_friends : (Int → Int)) (v_p0_kitchen_places : (Int → Int)) (v_p0_kitchen_holders : (Int → Int)) (v_p0_plans_good : (Int → Int)) (v_p0_plans_row : (Int → Int)) (x1 : Int) (x2 : Int) (r : Int) (o_v_p0_kitchen_places : (Int → Int)) (o_v_p0_kitchen_holders : (Int → Int)) (o_v_p0_plans_good : (Int → Int)) (o_v_p0_plans_row : (Int → Int)) (hf : f_X11_raise i_p0_rules_seats i_p0_rules_stirs v_p0_rules_after i_p0_state_bone i_p0_state_king v_p0_state_friends v_p0_kitchen_places v_p0_kitchen_holders v_p0_plans_good v_p0_plans_row x1 x2 = some (r, o_v_p0_kitchen_places, o_v_p0_kitchen_holders, o_v_p0_plans_good, o_v_p0_plans_row)) : Met l yX11_raise wsX11_raise rm_X11_raise (pcG D G [.ref a_p0, .int (Int32.ofInt x1), .int (Int32.ofInt x2)] sz [(a_p0, .inr (11, [.ref a_p0_rules, .ref a_p0_state, .ref a_p0_tape, .ref a_p0_reader, .ref a_p0_kitchen, .ref a_p0_luck, .ref a_p0_plans, .ref a_p0_coups, .ref a_p0_past, .ref a_p0_fairDays, .ref a_p0_images, .ref a_p0_imageHeld, .ref a_p0_sheets, .int (Int32.ofInt i_p0_latestFault), .int (Int32.ofInt i_p0_latestTear)])), (a_p0_rules, .inr (6, [.int (Int32.ofInt i_p0_rules_seats), .int (Int32.ofInt i_p0_rules_stirs), .ref a_p0_rules_need, .ref a_p0_rules_kind, .ref a_p0_rules_first, .ref a_p0_rules_second, .ref a_p0_rules_after])), (a_p0_rules_after, .inl (G 1, 35, .inl (zA v_p0_rules_after))), (a_p0_state, .inr (8, [.ref a_p0_state_pieces, .ref a_p0_state_friends, .ref a_p0_state_spoons, .ref a_p0_state_eaten, .ref a_p0_state_seen, .int (Int32.ofInt i_p0_state_seenDays), .int (Int32.ofInt i_p0_state_bone), .int (Int32.ofInt i_p0_state_king), .int (Int32.ofInt i_p0_state_days)])), (a_p0_state_friends, .inl (G 1, 7, .inl (zA v_p0_state_friends))), (a_p0_kitchen, .inr (2, [.ref a_p0_rules, .ref a_p0_state, .ref a_p0_kitchen_places, .ref a_p0_kitchen_holders, .ref a_p0_kitchen_stirred])), (a_p0_kitchen_places, .inl (G 1, 49, .inl (zA v_p0_kitchen_places))), (a_p0_kitchen_holders, .inl (G 1, 49, .inl (zA v_p0_kitchen_holders))), (a_p0_plans, .inr (5, [.ref a_p0_kitchen, .ref a_p0_plans_good, .ref a_p0_plans_row])), (a_p0_plans_good, .inl (G 2, 11, .inr (.inl (zL v_p0_plans_good)))), (a_p0_plans_row, .inl (G 1, 10, .inl (zA v_p0_plans_row)))]) (qcI D G (Int32.ofInt r) [(a_p0, .inr (11, [.ref a_p0_rules, .ref a_p0_state, .ref a_p0_tape, .ref a_p0_reader, .ref a_p0_kitchen, .ref a_p0_luck, .ref a_p0_plans, .ref a_p0_coups, .ref a_p0_past, .ref a_p0_fairDays, .ref a_p0_images, .ref a_p0_imageHeld, .ref a_p0_sheets, .int (Int32.ofInt i_p0_latestFault), .int (Int32.ofInt i_p0_latestTear)])), (a_p0_rules, .inr (6, [.int (Int32.ofInt i_p0_rules_seats), .int (Int32.ofInt i_p0_rules_stirs), .ref a_p0_rules_need, .ref a_p0_rules_kind, .ref a_p0_rules_first, .ref a_p0_rules_second, .ref a_p0_rules_after])), (a_p0_rules_after, .inl (G 1, 35, .inl (zA v_p0_rules_after))), (a_p0_state, .inr (8, [.ref a_p0_state_pieces, .ref a_p0_state_friends, .ref a_p0_state_spoons, .ref a_p0_state_eaten, .ref a_p0_state_seen, .int (Int32.ofInt i_p0_state_seenDays), .int (Int32.ofInt i_p0_state_bone), .int (Int32.ofInt i_p0_state_king), .int (Int32.ofInt i_p0_state_days)])), (a_p0_state_friends, .inl (G 1, 7, .inl (zA v_p0_state_friends))), (a_p0_kitchen, .inr (2, [.ref a_p0_rules, .ref a_p0_state, .ref a_p0_kitchen_places, .ref a_p0_kitchen_holders, .ref a_p0_kitchen_stirred])), (a_p0_kitchen_places, .inl (G 1, 49, .inl (zA o_v_p0_kitchen_places))), (a_p0_kitchen_holders, .inl (G 1, 49, .inl (zA o_v_p0_kitchen_holders))), (a_p0_plans, .inr (5, [.ref a_p0_kitchen, .ref a_p0_plans_good, .ref a_p0_plans_row])), (a_p0_plans_good, .inl (G 2, 11, .inr (.inl (zL o_v_p0_plans_good)))), (a_p0_plans_row, .inl (G 1, 10, .inl (zA o_v_p0_plans_row)))] (va_A [(a_p0, .inr (11, [.ref a_p0_rules, .ref a_p0_state, .ref a_p0_tape, .ref a_p0_reader, .ref a_p0_kitchen, .ref a_p0_luck, .ref a_p0_plans, .ref a_p0_coups, .ref a_p0_past, .ref a_p0_fairDays, .ref a_p0_images, .ref a_p0_imageHeld, .ref a_p0_sheets, .int (Int32.ofInt i_p0_latestFault), .int (Int32.ofInt i_p0_latestTear)])), (a_p0_rules, .inr (6, [.int (Int32.ofInt i_p0_rules_seats), .int (Int32.ofInt i_p0_rules_stirs), .ref a_p0_rules_need, .ref a_p0_rules_kind, .ref a_p0_rules_first, .ref a_p0_rules_second, .ref a_p0_rules_after])), (a_p0_rules_after, .inl (G 1, 35, .inl (zA v_p0_rules_after))), (a_p0_state, .inr (8, [.ref a_p0_state_pieces, .ref a_p0_state_friends, .ref a_p0_state_spoons, .ref a_p0_state_eaten, .ref a_p0_state_seen, .int (Int32.ofInt i_p0_state_seenDays), .int (Int32.ofInt i_p0_state_bone), .int (Int32.ofInt i_p0_state_king), .int (Int32.ofInt i_p0_state_days)])), (a_p0_state_friends, .inl (G 1, 7, .inl (zA v_p0_state_friends))), (a_p0_kitchen, .inr (2, [.ref a_p0_rules, .ref a_p0_state, .ref a_p0_kitchen_places, .ref a_p0_kitchen_holders, .ref a_p0_kitchen_stirred])), (a_p0_kitchen_places, .inl (G 1, 49, .inl (zA v_p0_kitchen_places))), (a_p0_kitchen_holders, .inl (G 1, 49, .inl (zA v_p0_kitchen_holders))), (a_p0_plans, .inr (5, [.ref a_p0_kitchen, .ref a_p0_plans_good, .ref a_p0_plans_row])), (a_p0_plans_good, .inl (G 2, 11, .inr (.inl (zL v_p0_plans_good)))), (a_p0_plans_row, .inl (G 1, 10, .inl (zA v_p0_plans_row)))] sz)) 0 0 (va_A [(a_p0, .inr (11, [.ref a_p0_rules, .ref a_p0_state, .ref a_p0_tape, .ref a_p0_reader, .ref a_p0_kitchen, .ref a_p0_luck, .ref a_p0_plans, .ref a_p0_coups, .ref a_p0_past, .ref a_p0_fairDays, .ref a_p0_images, .ref a_p0_imageHeld, .ref a_p0_sheets, .int (Int32.ofInt i_p0_latestFault), .int (Int32.ofInt i_p0_latestTear)])), (a_p0_rules, .inr (6, [.int (Int32.ofInt i_p0_rules_seats), .int (Int32.ofInt i_p0_rules_stirs), .ref a_p0_rules_need, .ref a_p0_rules_kind, .ref a_p0_rules_first, .ref a_p0_rules_second, .ref a_p0_rules_after])), (a_p0_rules_after, .inl (G 1, 35, .inl (zA v_p0_rules_after))), (a_p0_state, .inr (8, [.ref a_p0_state_pieces, .ref a_p0_state_friends, .ref a_p0_state_spoons, .ref a_p0_state_eaten, .ref a_p0_state_seen, .int (Int32.ofInt i_p0_state_seenDays), .int (Int32.ofInt i_p0_state_bone), .int (Int32.ofInt i_p0_state_king), .int (Int32.ofInt i_p0_state_days)])), (a_p0_state_friends, .inl (G 1, 7, .inl (zA v_p0_state_friends))), (a_p0_kitchen, .inr (2, [.ref a_p0_rules, .ref a_p0_state, .ref a_p0_kitchen_places, .ref a_p0_kitchen_holders, .ref a_p0_kitchen_stirred])), (a_p0_kitchen_places, .inl (G 1, 49, .inl (zA v_p0_kitchen_places))), (a_p0_kitchen_holders, .inl (G 1, 49, .inl (zA v_p0_kitchen_holders))), (a_p0_plans, .inr (5, [.ref a_p0_kitchen, .ref a_p0_plans_good, .ref a_p0_plans_row])), (a_p0_plans_good, .inl (G 2, 11, .inr (.inl (zL v_p0_plans_good)))), (a_p0_plans_row, .inl (G 1, 10, .inl (zA v_p0_plans_row)))] sz) := by
  refine Met.ofW (cc := cX11_raise) (maxL := 4) (ret := (some .int)) (by decide) rfl ?_
  intro p e s m args below meth c s₁ B hml hv
  obtain ⟨rfl, hsz, hP, hK, hD0⟩ := hv
  have hx := B.exec
  have hb := B.bytes
  have hr := B.returns
  have hts := atoms_spec (ws := wsX11_raise) B.pre
  have hown : s.vm.findClass RX11 = some m.cls := findClass_of_methodNamed B.named
  have hlocks := B.notSynchronized
  subst hsz
  have hD := hD0.self (sz := s.heap.size)
  generalize hAe : va_A [(a_p0, .inr (11, [.ref a_p0_rules, .ref a_p0_state, .ref a_p0_tape, .ref a_p0_reader, .ref a_p0_kitchen, .ref a_p0_luck, .ref a_p0_plans, .ref a_p0_coups, .ref a_p0_past, .ref a_p0_fairDays, .ref a_p0_images, .ref a_p0_imageHeld, .ref a_p0_sheets, .int (Int32.ofInt i_p0_latestFault), .int (Int32.ofInt i_p0_latestTear)])), (a_p0_rules, .inr (6, [.int (Int32.ofInt i_p0_rules_seats), .int (Int32.ofInt i_p0_rules_stirs), .ref a_p0_rules_need, .ref a_p0_rules_kind, .ref a_p0_rules_first, .ref a_p0_rules_second, .ref a_p0_rules_after])), (a_p0_rules_after, .inl (G 1, 35, .inl (zA v_p0_rules_after))), (a_p0_state, .inr (8, [.ref a_p0_state_pieces, .ref a_p0_state_friends, .ref a_p0_state_spoons, .ref a_p0_state_eaten, .ref a_p0_state_seen, .int (Int32.ofInt i_p0_state_seenDays), .int (Int32.ofInt i_p0_state_bone), .int (Int32.ofInt i_p0_state_king), .int (Int32.ofInt i_p0_state_days)])), (a_p0_state_friends, .inl (G 1, 7, .inl (zA v_p0_state_friends))), (a_p0_kitchen, .inr (2, [.ref a_p0_rules, .ref a_p0_state, .ref a_p0_kitchen_places, .ref a_p0_kitchen_holders, .ref a_p0_kitchen_stirred])), (a_p0_kitchen_places, .inl (G 1, 49, .inl (zA v_p0_kitchen_places))), (a_p0_kitchen_holders, .inl (G 1, 49, .inl (zA v_p0_kitchen_holders))), (a_p0_plans, .inr (5, [.ref a_p0_kitchen, .ref a_p0_plans_good, .ref a_p0_plans_row])), (a_p0_plans_good, .inl (G 2, 11, .inr (.inl (zL v_p0_plans_good)))), (a_p0_plans_row, .inl (G 1, 10, .inl (zA v_p0_plans_row)))] s.heap.size = A at hD ⊢
  have hA : ∀ q : Nat, s.heap.size ≤ q → A q := fun q h => by rw [← hAe]; exact Or.inr h
  clear hAe hD0
  have hS : va_S A s.heap s.heap [] := va_S.rf
  have hl := lv_entry ([.ref a_p0, .int (Int32.ofInt x1), .int (Int32.ofInt x2)]) (n := 4) (Nat.le_of_ble_eq_true rfl)
  rw [lg_entry_eq]
  generalize (lg_sl ([.ref a_p0, .int (Int32.ofInt x1), .int (Int32.ofInt x2)]) ++ List.replicate (4 - (lg_sl ([.ref a_p0, .int (Int32.ofInt x1), .int (Int32.ofInt x2)])).length) Slot.unset).toArray = ls at hl ⊢
  have hl : lv_has ls 4 [(0, .ref a_p0), (1, .int (Int32.ofInt x1)), (2, .int (Int32.ofInt x2))] := hl
  refine W_nameQ (fun Q hQ => ?_)
  obtain ⟨H, hH⟩ : ∃ H, H = s.heap := ⟨_, rfl⟩
  replace hS : va_S A s.heap H [] := by rw [hH]; exact hS
  replace hP : va_P D vwCl [(a_p0, .inr (11, [.ref a_p0_rules, .ref a_p0_state, .ref a_p0_tape, .ref a_p0_reader, .ref a_p0_kitchen, .ref a_p0_luck, .ref a_p0_plans, .ref a_p0_coups, .ref a_p0_past, .ref a_p0_fairDays, .ref a_p0_images, .ref a_p0_imageHeld, .ref a_p0_sheets, .int (Int32.ofInt i_p0_latestFault), .int (Int32.ofInt i_p0_latestTear)])), (a_p0_rules, .inr (6, [.int (Int32.ofInt i_p0_rules_seats), .int (Int32.ofInt i_p0_rules_stirs), .ref a_p0_rules_need, .ref a_p0_rules_kind, .ref a_p0_rules_first, .ref a_p0_rules_second, .ref a_p0_rules_after])), (a_p0_rules_after, .inl (G 1, 35, .inl (zA v_p0_rules_after))), (a_p0_state, .inr (8, [.ref a_p0_state_pieces, .ref a_p0_state_friends, .ref a_p0_state_spoons, .ref a_p0_state_eaten, .ref a_p0_state_seen, .int (Int32.ofInt i_p0_state_seenDays), .int (Int32.ofInt i_p0_state_bone), .int (Int32.ofInt i_p0_state_king), .int (Int32.ofInt i_p0_state_days)])), (a_p0_state_friends, .inl (G 1, 7, .inl (zA v_p0_state_friends))), (a_p0_kitchen, .inr (2, [.ref a_p0_rules, .ref a_p0_state, .ref a_p0_kitchen_places, .ref a_p0_kitchen_holders, .ref a_p0_kitchen_stirred])), (a_p0_kitchen_places, .inl (G 1, 49, .inl (zA v_p0_kitchen_places))), (a_p0_kitchen_holders, .inl (G 1, 49, .inl (zA v_p0_kitchen_holders))), (a_p0_plans, .inr (5, [.ref a_p0_kitchen, .ref a_p0_plans_good, .ref a_p0_plans_row])), (a_p0_plans_good, .inl (G 2, 11, .inr (.inl (zL v_p0_plans_good)))), (a_p0_plans_row, .inl (G 1, 10, .inl (zA v_p0_plans_row)))] H := by rw [hH]; exact hP
  rw [← hH]
  clear hH
  unfold f_X11_raise at hf
  refine lv_aload_n hx hb dX11_raise_0 rfl (lv_at hl 0 rfl) ?_
  refine va_get (D := D) (ci := 11) (v := .ref a_p0_rules) (C := RX11) (T := TX11) (N := 15) hx hb hts inX11_raise_X11 hown hK hP 0 rfl rfl 0 (by decide) (hts _ mwX11_raise_1) (fun _ h9 => h9) rfl dX11_raise_1 ?_
  refine lv_iload_n hx hb dX11_raise_4 rfl (lv_at hl 1 rfl) ?_
  have hq := bd1_s hf
  clear hf
  obtain ⟨z1, hcall, hf⟩ := hq
  refine gcI (ws' := [(a_p0, .inr (11, [.ref a_p0_rules, .ref a_p0_state, .ref a_p0_tape, .ref a_p0_reader, .ref a_p0_kitchen, .ref a_p0_luck, .ref a_p0_plans, .ref a_p0_coups, .ref a_p0_past, .ref a_p0_fairDays, .ref a_p0_images, .ref a_p0_imageHeld, .ref a_p0_sheets, .int (Int32.ofInt i_p0_latestFault), .int (Int32.ofInt i_p0_latestTear)])), (a_p0_rules, .inr (6, [.int (Int32.ofInt i_p0_rules_seats), .int (Int32.ofInt i_p0_rules_stirs), .ref a_p0_rules_need, .ref a_p0_rules_kind, .ref a_p0_rules_first, .ref a_p0_rules_second, .ref a_p0_rules_after])), (a_p0_rules_after, .inl (G 1, 35, .inl (zA v_p0_rules_after))), (a_p0_state, .inr (8, [.ref a_p0_state_pieces, .ref a_p0_state_friends, .ref a_p0_state_spoons, .ref a_p0_state_eaten, .ref a_p0_state_seen, .int (Int32.ofInt i_p0_state_seenDays), .int (Int32.ofInt i_p0_state_bone), .int (Int32.ofInt i_p0_state_king), .int (Int32.ofInt i_p0_state_days)])), (a_p0_state_friends, .inl (G 1, 7, .inl (zA v_p0_state_friends))), (a_p0_kitchen, .inr (2, [.ref a_p0_rules, .ref a_p0_state, .ref a_p0_kitchen_places, .ref a_p0_kitchen_holders, .ref a_p0_kitchen_stirred])), (a_p0_kitchen_places, .inl (G 1, 49, .inl (zA v_p0_kitchen_places))), (a_p0_kitchen_holders, .inl (G 1, 49, .inl (zA v_p0_kitchen_holders))), (a_p0_plans, .inr (5, [.ref a_p0_kitchen, .ref a_p0_plans_good, .ref a_p0_plans_row])), (a_p0_plans_good, .inl (G 2, 11, .inr (.inl (zL v_p0_plans_good)))), (a_p0_plans_row, .inl (G 1, 10, .inl (zA v_p0_plans_row)))]) (va_runV (As := [.int (Int32.ofInt x1)]) (rest := []) ⟨hx, hb, hml, hown, hts⟩ (c_X6_hasSeat (l := l) (D := D) (G := G) (sz := H.size) (a_p0 := a_p0_rules) (a_p0_need := a_p0_rules_need) (a_p0_kind := a_p0_rules_kind) (a_p0_first := a_p0_rules_first) (a_p0_second := a_p0_rules_second) (a_p0_after := a_p0_rules_after) (i_p0_seats := i_p0_rules_seats) (i_p0_stirs := i_p0_rules_stirs) (x1 := x1) (r := z1) (hf := hcall)) (cwV 1 hts gX11_raise_X6_hasSeat rfl rfl rfl (by decide +kernel) ⟨Nat.le_of_ble_eq_true rfl, Nat.le_of_ble_eq_true rfl⟩) (preG_V (ci := 6) (hP.sub [1] rfl) (hD.sub [1] rfl rfl) hK rfl rfl) rfl rfl hl.1 rfl (lv_room (Nat.le_of_ble_eq_true rfl)) dX11_raise_5 ⟨Nat.le_of_ble_eq_true rfl, Nat.le_of_ble_eq_true rfl⟩) hP hD hS hA [1] [0, 2, 3, 4, 5, 6, 7, 8, 9, 10] [0, 10, 1, 2, 3, 4, 5, 6, 7, 8, 9] rfl rfl rfl (by decide) rfl rfl rfl (fun H locs hP hD hS => ?_)
  clear hcall
  have hr1 := ck_c hf
  replace hf := ck_r hf
  refine lv_if_eq (tgt := 20) hx hb dX11_raise_8 (by decide) (fun cc => ?_) (fun cc => ?_)
  ·
    replace hf := ite_t ((z_eq0 hr1).mp cc) hf
    clear cc
    refine lv_iconst (v := Int32.ofInt (-1 : Int)) hx hb dX11_raise_20 (by decide) ?_
    obtain ⟨rfl, rfl, rfl, rfl, rfl⟩ := ou5 hf
    rw [hQ]
    exact W.iret hx hb hr (fun t ht hW => ⟨⟨_, (), rfl, rfl, by rw [ht]; exact hP, va_K.moved hW.alike hK, hD⟩, hS.F ht⟩) hS.2.2 dX11_raise_21
  ·
    replace hf := ite_f (fun h9 => cc ((z_eq0 hr1).mpr h9)) hf
    clear cc
    refine lv_iload_n hx hb dX11_raise_11 rfl (lv_at hl 2 rfl) ?_
    refine lv_bipush (v := Int32.ofInt (10 : Int)) hx hb dX11_raise_12 (by decide) ?_
    have hq := bd1_s hf
    clear hf
    obtain ⟨z3, hcall, hf⟩ := hq
    refine gcI (ws' := [(a_p0, .inr (11, [.ref a_p0_rules, .ref a_p0_state, .ref a_p0_tape, .ref a_p0_reader, .ref a_p0_kitchen, .ref a_p0_luck, .ref a_p0_plans, .ref a_p0_coups, .ref a_p0_past, .ref a_p0_fairDays, .ref a_p0_images, .ref a_p0_imageHeld, .ref a_p0_sheets, .int (Int32.ofInt i_p0_latestFault), .int (Int32.ofInt i_p0_latestTear)])), (a_p0_rules, .inr (6, [.int (Int32.ofInt i_p0_rules_seats), .int (Int32.ofInt i_p0_rules_stirs), .ref a_p0_rules_need, .ref a_p0_rules_kind, .ref a_p0_rules_first, .ref a_p0_rules_second, .ref a_p0_rules_after])), (a_p0_rules_after, .inl (G 1, 35, .inl (zA v_p0_rules_after))), (a_p0_state, .inr (8, [.ref a_p0_state_pieces, .ref a_p0_state_friends, .ref a_p0_state_spoons, .ref a_p0_state_eaten, .ref a_p0_state_seen, .int (Int32.ofInt i_p0_state_seenDays), .int (Int32.ofInt i_p0_state_bone), .int (Int32.ofInt i_p0_state_king), .int (Int32.ofInt i_p0_state_days)])), (a_p0_state_friends, .inl (G 1, 7, .inl (zA v_p0_state_friends))), (a_p0_kitchen, .inr (2, [.ref a_p0_rules, .ref a_p0_state, .ref a_p0_kitchen_places, .ref a_p0_kitchen_holders, .ref a_p0_kitchen_stirred])), (a_p0_kitchen_places, .inl (G 1, 49, .inl (zA v_p0_kitchen_places))), (a_p0_kitchen_holders, .inl (G 1, 49, .inl (zA v_p0_kitchen_holders))), (a_p0_plans, .inr (5, [.ref a_p0_kitchen, .ref a_p0_plans_good, .ref a_p0_plans_row])), (a_p0_plans_good, .inl (G 2, 11, .inr (.inl (zL v_p0_plans_good)))), (a_p0_plans_row, .inl (G 1, 10, .inl (zA v_p0_plans_row)))]) (va_runS (As := [.int (Int32.ofInt x2), .int (Int32.ofInt (10 : Int))]) (rest := []) ⟨hx, hb, hml, hown, hts⟩ (c_X11_isRowQuestion (l := l) (D := D) (G := G) (sz := H.size) (x0 := x2) (x1 := (10 : Int)) (r := z3) (hf := hcall)) (va_cwS 2 hts gX11_raise_X11_isRowQuestion rfl rfl rfl (by decide +kernel) ⟨Nat.le_of_ble_eq_true rfl, Nat.le_of_ble_eq_true rfl⟩) (preG_S (hP.sub [] rfl) (hD.sub [] rfl rfl) hK) rfl rfl hl.1 rfl (lv_room (Nat.le_of_ble_eq_true rfl)) dX11_raise_14 ⟨Nat.le_of_ble_eq_true rfl, Nat.le_of_ble_eq_true rfl⟩) hP hD hS hA [] [0, 1, 2, 3, 4, 5, 6, 7, 8, 9, 10] [0, 1, 2, 3, 4, 5, 6, 7, 8, 9, 10] rfl rfl rfl (by decide) rfl rfl rfl (fun H locs hP hD hS => ?_)
    clear hcall
    have hr3 := ck_c hf
    replace hf := ck_r hf
    refine lv_if_ne (tgt := 22) hx hb dX11_raise_17 (by decide) (fun cc => ?_) (fun cc => ?_)
    ·
      replace hf := ite_f (fun h9 => cc ((z_eq0 hr3).mpr h9)) hf
      clear cc
      refine lv_aload_n hx hb dX11_raise_22 rfl (lv_at hl 0 rfl) ?_
      refine va_get (D := D) (ci := 11) (v := .ref a_p0_rules) (C := RX11) (T := TX11) (N := 15) hx hb hts inX11_raise_X11 hown hK hP 0 rfl rfl 0 (by decide) (hts _ mwX11_raise_1) (fun _ h9 => h9) rfl dX11_raise_23 ?_
      refine va_get (D := D) (ci := 6) (v := .int (Int32.ofInt i_p0_rules_stirs)) (C := RX6) (T := TX6) (N := 7) hx hb hts inX11_raise_X6 hown hK hP 1 rfl rfl 1 (by decide) (hts _ mwX11_raise_3) (fun _ h9 => h9) rfl dX11_raise_26 ?_
      have hr4 := ck_c hf
      replace hf := ck_r hf
      refine lv_if_ne (tgt := 35) hx hb dX11_raise_29 (by decide) (fun cc => ?_) (fun cc => ?_)
      ·
        replace hf := ite_f (fun h9 => cc ((z_eq0 hr4).mpr h9)) hf
        clear cc
        refine lv_aload_n hx hb dX11_raise_35 rfl (lv_at hl 0 rfl) ?_
        refine va_get (D := D) (ci := 11) (v := .ref a_p0_plans) (C := RX11) (T := TX11) (N := 15) hx hb hts inX11_raise_X11 hown hK hP 0 rfl rfl 6 (by decide) (hts _ mwX11_raise_4) (fun _ h9 => h9) rfl dX11_raise_36 ?_
        refine lv_iload_n hx hb dX11_raise_39 rfl (lv_at hl 1 rfl) ?_
        have hq := bd5_s hf
        clear hf
        obtain ⟨z6, w7, w8, w9, w10, hcall, hf⟩ := hq
        refine gcI (ws' := [(a_p0, .inr (11, [.ref a_p0_rules, .ref a_p0_state, .ref a_p0_tape, .ref a_p0_reader, .ref a_p0_kitchen, .ref a_p0_luck, .ref a_p0_plans, .ref a_p0_coups, .ref a_p0_past, .ref a_p0_fairDays, .ref a_p0_images, .ref a_p0_imageHeld, .ref a_p0_sheets, .int (Int32.ofInt i_p0_latestFault), .int (Int32.ofInt i_p0_latestTear)])), (a_p0_rules, .inr (6, [.int (Int32.ofInt i_p0_rules_seats), .int (Int32.ofInt i_p0_rules_stirs), .ref a_p0_rules_need, .ref a_p0_rules_kind, .ref a_p0_rules_first, .ref a_p0_rules_second, .ref a_p0_rules_after])), (a_p0_rules_after, .inl (G 1, 35, .inl (zA v_p0_rules_after))), (a_p0_state, .inr (8, [.ref a_p0_state_pieces, .ref a_p0_state_friends, .ref a_p0_state_spoons, .ref a_p0_state_eaten, .ref a_p0_state_seen, .int (Int32.ofInt i_p0_state_seenDays), .int (Int32.ofInt i_p0_state_bone), .int (Int32.ofInt i_p0_state_king), .int (Int32.ofInt i_p0_state_days)])), (a_p0_state_friends, .inl (G 1, 7, .inl (zA v_p0_state_friends))), (a_p0_kitchen, .inr (2, [.ref a_p0_rules, .ref a_p0_state, .ref a_p0_kitchen_places, .ref a_p0_kitchen_holders, .ref a_p0_kitchen_stirred])), (a_p0_kitchen_places, .inl (G 1, 49, .inl (zA w7))), (a_p0_kitchen_holders, .inl (G 1, 49, .inl (zA w8))), (a_p0_plans, .inr (5, [.ref a_p0_kitchen, .ref a_p0_plans_good, .ref a_p0_plans_row])), (a_p0_plans_good, .inl (G 2, 11, .inr (.inl (zL w9)))), (a_p0_plans_row, .inl (G 1, 10, .inl (zA w10)))]) (va_runV (As := [.int (Int32.ofInt x1)]) (rest := []) ⟨hx, hb, hml, hown, hts⟩ (c_X5_planRaise (l := l) (D := D) (G := G) (sz := H.size) (a_p0 := a_p0_plans) (a_p0_kitchen := a_p0_kitchen) (a_p0_good := a_p0_plans_good) (a_p0_row := a_p0_plans_row) (a_p0_kitchen_rules := a_p0_rules) (a_p0_kitchen_state := a_p0_state) (a_p0_kitchen_places := a_p0_kitchen_places) (a_p0_kitchen_holders := a_p0_kitchen_holders) (a_p0_kitchen_stirred := a_p0_kitchen_stirred) (a_p0_kitchen_rules_need := a_p0_rules_need) (a_p0_kitchen_rules_kind := a_p0_rules_kind) (a_p0_kitchen_rules_first := a_p0_rules_first) (a_p0_kitchen_rules_second := a_p0_rules_second) (a_p0_kitchen_rules_after := a_p0_rules_after) (a_p0_kitchen_state_pieces := a_p0_state_pieces) (a_p0_kitchen_state_friends := a_p0_state_friends) (a_p0_kitchen_state_spoons := a_p0_state_spoons) (a_p0_kitchen_state_eaten := a_p0_state_eaten) (a_p0_kitchen_state_seen := a_p0_state_seen) (i_p0_kitchen_rules_seats := i_p0_rules_seats) (i_p0_kitchen_rules_stirs := i_p0_rules_stirs) (v_p0_kitchen_rules_after := v_p0_rules_after) (i_p0_kitchen_state_seenDays := i_p0_state_seenDays) (i_p0_kitchen_state_bone := i_p0_state_bone) (i_p0_kitchen_state_king := i_p0_state_king) (i_p0_kitchen_state_days := i_p0_state_days) (v_p0_kitchen_state_friends := v_p0_state_friends) (v_p0_kitchen_places := v_p0_kitchen_places) (v_p0_kitchen_holders := v_p0_kitchen_holders) (v_p0_good := v_p0_plans_good) (v_p0_row := v_p0_plans_row) (x1 := x1) (r := z6) (o_v_p0_kitchen_places := w7) (o_v_p0_kitchen_holders := w8) (o_v_p0_good := w9) (o_v_p0_row := w10) (hf := hcall)) (cwV 1 hts gX11_raise_X5_planRaise rfl rfl rfl (by decide +kernel) ⟨Nat.le_of_ble_eq_true rfl, Nat.le_of_ble_eq_true rfl⟩) (preG_V (ci := 5) (hP.sub [8, 5, 1, 2, 3, 4, 6, 7, 9, 10] rfl) (hD.sub [8, 5, 1, 2, 3, 4, 6, 7, 9, 10] rfl rfl) hK rfl rfl) rfl rfl hl.1 rfl (lv_room (Nat.le_of_ble_eq_true rfl)) dX11_raise_40 ⟨Nat.le_of_ble_eq_true rfl, Nat.le_of_ble_eq_true rfl⟩) hP hD hS hA [8, 5, 1, 2, 3, 4, 6, 7, 9, 10] [0] [0, 3, 4, 5, 6, 2, 7, 8, 1, 9, 10] rfl rfl rfl (by decide) rfl rfl rfl (fun H locs hP hD hS => ?_)
        clear hcall
        refine z_topi (fun z11 ez => ?_)
        replace hf := bnd_s hf ez
        clear ez
        refine lv_istore_n (lv' := [(3, .int (Int32.ofInt z11)), (0, .ref a_p0), (1, .int (Int32.ofInt x1)), (2, .int (Int32.ofInt x2))]) hx hb dX11_raise_43 rfl hl (by decide) rfl (fun ls hl => ?_)
        refine lv_iload_n hx hb dX11_raise_44 rfl (lv_at hl 3 rfl) ?_
        have hr11 := ck_c hf
        replace hf := ck_r hf
        refine lv_if_ne (tgt := 52) hx hb dX11_raise_45 (by decide) (fun cc => ?_) (fun cc => ?_)
        ·
          replace hf := ite_f (fun h9 => cc ((z_eq0 hr11).mpr h9)) hf
          clear cc
          refine lv_aload_n hx hb dX11_raise_52 rfl (lv_at hl 1 rfl) ?_
          refine va_get (D := D) (ci := 11) (v := .ref a_p0_plans) (C := RX11) (T := TX11) (N := 15) hx hb hts inX11_raise_X11 hown hK hP 0 rfl rfl 6 (by decide) (hts _ mwX11_raise_4) (fun _ h9 => h9) rfl dX11_raise_53 ?_
          refine va_get (D := D) (ci := 5) (v := .ref a_p0_plans_row) (C := RX5) (T := TX5) (N := 3) hx hb hts inX11_raise_X5 hown hK hP 8 rfl rfl 2 (by decide) (hts _ mwX11_raise_6) (fun _ h9 => h9) rfl dX11_raise_56 ?_
          refine lv_iload_n hx hb dX11_raise_59 rfl (lv_at hl 0 rfl) ?_
          refine lv_iload_n hx hb dX11_raise_60 rfl (lv_at hl 3 rfl) ?_
          refine lv_bipush (v := Int32.ofInt (10 : Int)) hx hb dX11_raise_61 (by decide) ?_
          refine lv_isub hx hb dX11_raise_63 (z_ci (Int32.ofInt_sub x2 (10 : Int)) ?_)
          have hq := bd1_s hf
          clear hf
          obtain ⟨z13, hcall, hf⟩ := hq
          refine gcI (ws' := [(a_p0, .inr (11, [.ref a_p0_rules, .ref a_p0_state, .ref a_p0_tape, .ref a_p0_reader, .ref a_p0_kitchen, .ref a_p0_luck, .ref a_p0_plans, .ref a_p0_coups, .ref a_p0_past, .ref a_p0_fairDays, .ref a_p0_images, .ref a_p0_imageHeld, .ref a_p0_sheets, .int (Int32.ofInt i_p0_latestFault), .int (Int32.ofInt i_p0_latestTear)])), (a_p0_rules, .inr (6, [.int (Int32.ofInt i_p0_rules_seats), .int (Int32.ofInt i_p0_rules_stirs), .ref a_p0_rules_need, .ref a_p0_rules_kind, .ref a_p0_rules_first, .ref a_p0_rules_second, .ref a_p0_rules_after])), (a_p0_rules_after, .inl (G 1, 35, .inl (zA v_p0_rules_after))), (a_p0_state, .inr (8, [.ref a_p0_state_pieces, .ref a_p0_state_friends, .ref a_p0_state_spoons, .ref a_p0_state_eaten, .ref a_p0_state_seen, .int (Int32.ofInt i_p0_state_seenDays), .int (Int32.ofInt i_p0_state_bone), .int (Int32.ofInt i_p0_state_king), .int (Int32.ofInt i_p0_state_days)])), (a_p0_state_friends, .inl (G 1, 7, .inl (zA v_p0_state_friends))), (a_p0_kitchen, .inr (2, [.ref a_p0_rules, .ref a_p0_state, .ref a_p0_kitchen_places, .ref a_p0_kitchen_holders, .ref a_p0_kitchen_stirred])), (a_p0_kitchen_places, .inl (G 1, 49, .inl (zA w7))), (a_p0_kitchen_holders, .inl (G 1, 49, .inl (zA w8))), (a_p0_plans, .inr (5, [.ref a_p0_kitchen, .ref a_p0_plans_good, .ref a_p0_plans_row])), (a_p0_plans_good, .inl (G 2, 11, .inr (.inl (zL w9)))), (a_p0_plans_row, .inl (G 1, 10, .inl (zA w10)))]) (va_runS (As := [.ref a_p0_plans_row, .int (Int32.ofInt z11), .int (Int32.ofInt (x2 - (10 : Int)))]) (rest := []) ⟨hx, hb, hml, hown, hts⟩ (c_X11_ofRow (l := l) (D := D) (G := G) (sz := H.size) (a_p0 := a_p0_plans_row) (n_p0 := 10) (v_p0 := w10) (x1 := z11) (x2 := (x2 - (10 : Int))) (r := z13) (hf := hcall)) (va_cwS 3 hts gX11_raise_X11_ofRow rfl rfl rfl (by decide +kernel) ⟨Nat.le_of_ble_eq_true rfl, Nat.le_of_ble_eq_true rfl⟩) (preG_S (hP.sub [10] rfl) (hD.sub [10] rfl rfl) hK) rfl rfl hl.1 rfl (lv_room (Nat.le_of_ble_eq_true rfl)) dX11_raise_64 ⟨Nat.le_of_ble_eq_true rfl, Nat.le_of_ble_eq_true rfl⟩) hP hD hS hA [10] [0, 1, 2, 3, 4, 5, 6, 7, 8, 9] [0, 1, 2, 3, 4, 5, 6, 7, 8, 9, 10] rfl rfl rfl (by decide) rfl rfl rfl (fun H locs hP hD hS => ?_)
          clear hcall
          obtain ⟨rfl, rfl, rfl, rfl, rfl⟩ := ou5 hf
          rw [hQ]
          exact W.iret hx hb hr (fun t ht hW => ⟨⟨_, (), rfl, rfl, by rw [ht]; exact hP, va_K.moved hW.alike hK, hD⟩, hS.F ht⟩) hS.2.2 dX11_raise_67
        ·
          replace hf := ite_t ((z_eq0 hr11).mp cc) hf
          clear cc
          refine lv_iload_n hx hb dX11_raise_48 rfl (lv_at hl 0 rfl) ?_
          refine lv_goto (tgt := 67) hx hb dX11_raise_49 (by decide) ?_
          obtain ⟨rfl, rfl, rfl, rfl, rfl⟩ := ou5 hf
          rw [hQ]
          exact W.iret hx hb hr (fun t ht hW => ⟨⟨_, (), rfl, rfl, by rw [ht]; exact hP, va_K.moved hW.alike hK, hD⟩, hS.F ht⟩) hS.2.2 dX11_raise_67
      ·
        replace hf := ite_t ((z_eq0 hr4).mp cc) hf
        clear cc
        refine lv_bipush (v := Int32.ofInt (-2 : Int)) hx hb dX11_raise_32 (by decide) ?_
        obtain ⟨rfl, rfl, rfl, rfl, rfl⟩ := ou5 hf
        rw [hQ]
        exact W.iret hx hb hr (fun t ht hW => ⟨⟨_, (), rfl, rfl, by rw [ht]; exact hP, va_K.moved hW.alike hK, hD⟩, hS.F ht⟩) hS.2.2 dX11_raise_34
    ·
      replace hf := ite_t ((z_eq0 hr3).mp cc) hf
      clear cc
      refine lv_iconst (v := Int32.ofInt (-1 : Int)) hx hb dX11_raise_20 (by decide) ?_
      obtain ⟨rfl, rfl, rfl, rfl, rfl⟩ := ou5 hf
      rw [hQ]
      exact W.iret hx hb hr (fun t ht hW => ⟨⟨_, (), rfl, rfl, by rw [ht]; exact hP, va_K.moved hW.alike hK, hD⟩, hS.F ht⟩) hS.2.2 dX11_raise_21

noncomputable def f_X11_coup (i_p0_rules_seats : Int) (i_p0_rules_stirs : Int) (v_p0_rules_after : (Int → Int)) (v_p0_state_pieces : (Int → Int)) (v_p0_state_friends : (Int → Int)) (v_p0_state_spoons : (Int → Int)) (v_p0_kitchen_places : (Int → Int)) (v_p0_kitchen_holders : (Int → Int)) (v_p0_kitchen_stirred : (Int → Int)) (x1 : Int) (x2 : Int) (x3 : Int) : Option (Int × (Int → Int) × (Int → Int) × (Int → Int)) := (bd1 (f_X6_hasSeat i_p0_rules_seats x1) (fun (z1 : Int) => (ck (z_r32 z1) (if z1 = (0 : Int) then (some ((-1 : Int), v_p0_kitchen_places, v_p0_kitchen_holders, v_p0_kitchen_stirred)) else (bd1 (f_X6_hasStir i_p0_rules_stirs x2) (fun (z3 : Int) => (ck (z_r32 z3) (if z3 = (0 : Int) then (some ((-1 : Int), v_p0_kitchen_places, v_p0_kitchen_holders, v_p0_kitchen_stirred)) else (bd1 (f_X11_isPart x3) (fun (z5 : Int) => (ck (z_r32 z5) (if z5 = (0 : Int) then (some ((-1 : Int), v_p0_kitchen_places, v_p0_kitchen_holders, v_p0_kitchen_stirred)) else (bd2 (f_X2_serveAllKings i_p0_rules_seats v_p0_state_friends v_p0_kitchen_places v_p0_kitchen_holders) (fun (w7 : (Int → Int)) (w8 : (Int → Int)) => (bd1 (f_X2_stirPot i_p0_rules_seats v_p0_rules_after v_p0_state_pieces v_p0_kitchen_stirred x2) (fun (w9 : (Int → Int)) => (bd1 (f_X0_leastLeader i_p0_rules_seats v_p0_state_spoons w7 w9 x1) (fun (z10 : Int) => (bnd z10 (fun (z11 : Int) => (ck (z_r32 z11) (if z11 = (-4 : Int) then (some (z11, w7, w8, w9)) else (ck (z_r32 x3) (if x3 = (0 : Int) then (some (z11, w7, w8, w9)) else (bd1 (f_X0_leastBand i_p0_rules_seats v_p0_state_spoons w7 w9 x1 z11) (fun (z14 : Int) => (some (z14, w7, w8, w9))))))))))))))))))))))))))))
abbrev rm_X11_coup : Room := { frames := 5, cells := 0, slots := 0, locals := 113 }
theorem inX11_coup_X11 : ∀ w ∈ wsX110, w ∈ wsX11_coup := by decide +kernel
theorem mwX11_coup_1 : Cond.fieldLink RX11 10 "LadleKings" "rules" "LLadleKings$Rules;" ∈ wsX11_coup := by decide +kernel
theorem mwX11_coup_2 : Cond.fieldLink RX11 44 "LadleKings" "kitchen" "LLadleKings$Kitchen;" ∈ wsX11_coup := by decide +kernel
theorem mwX11_coup_3 : Cond.fieldLink RX11 67 "LadleKings" "coups" "LLadleKings$Coups;" ∈ wsX11_coup := by decide +kernel
set_option maxHeartbeats 8000000 in
set_option maxRecDepth 100000 in
theorem c_X11_coup (l : Launch) (D : va_G) (G : Nat → ClassId) (sz : Nat) (a_p0 : Nat) (a_p0_rules : Nat) (a_p0_state : Nat) (a_p0_tape : Nat) (a_p0_reader : Nat) (a_p0_kitchen : Nat) (a_p0_luck : Nat) (a_p0_plans : Nat) (a_p0_coups : Nat) (a_p0_past : Nat) (a_p0_fairDays : Nat) (a_p0_images : Nat) (a_p0_imageHeld : Nat) (a_p0_sheets : Nat) (a_p0_rules_need : Nat) (a_p0_rules_kind : Nat) (a_p0_rules_first : Nat) (a_p0_rules_second : Nat) (a_p0_rules_after : Nat) (a_p0_state_pieces : Nat) (a_p0_state_friends : Nat) (a_p0_state_spoons : Nat) (a_p0_state_eaten : Nat) (a_p0_state_seen : Nat) (a_p0_kitchen_places : Nat) (a_p0_kitchen_holders : Nat) (a_p0_kitchen_stirred : Nat) (i_p0_latestFault : Int) (i_p0_latestTear : Int) (i_p0_rules_seats : Int) (i_p0_rules_stirs : Int) (v_p0_rules_after : (Int → Int)) (i_p0_state_seenDays : Int) (i_p0_state_bone : Int) (i_p0_state_king : Int) (i_p0_state_days : Int) (v_p0_state_pieces : (Int → Int)) (v_p0_state_friends : (Int → Int)) (v_p0_state_spoons : (Int → Int)) (v_p0_kitchen_places : (Int → Int)) (v_p0_kitchen_holders : (Int → Int)) (v_p0_kitchen_stirred : (Int → Int)) (x1 : Int) (x2 : Int) (x3 : Int) (r : Int) (o_v_p0_kitchen_places : (Int → Int)) (o_v_p0_kitchen_holders : (Int → Int)) (o_v_p0_kitchen_stirred : (Int → Int)) (hf : f_X11_coup i_p0_rules_seats i_p0_rules_stirs v_p0_rules_after v_p0_state_pieces v_p0_state_friends v_p0_state_spoons v_p0_kitchen_places v_p0_kitchen_holders v_p0_kitchen_stirred x1 x2 x3 = some (r, o_v_p0_kitchen_places, o_v_p0_kitchen_holders, o_v_p0_kitchen_stirred)) : Met l yX11_coup wsX11_coup rm_X11_coup (pcG D G [.ref a_p0, .int (Int32.ofInt x1), .int (Int32.ofInt x2), .int (Int32.ofInt x3)] sz [(a_p0, .inr (11, [.ref a_p0_rules, .ref a_p0_state, .ref a_p0_tape, .ref a_p0_reader, .ref a_p0_kitchen, .ref a_p0_luck, .ref a_p0_plans, .ref a_p0_coups, .ref a_p0_past, .ref a_p0_fairDays, .ref a_p0_images, .ref a_p0_imageHeld, .ref a_p0_sheets, .int (Int32.ofInt i_p0_latestFault), .int (Int32.ofInt i_p0_latestTear)])), (a_p0_rules, .inr (6, [.int (Int32.ofInt i_p0_rules_seats), .int (Int32.ofInt i_p0_rules_stirs), .ref a_p0_rules_need, .ref a_p0_rules_kind, .ref a_p0_rules_first, .ref a_p0_rules_second, .ref a_p0_rules_after])), (a_p0_rules_after, .inl (G 1, 35, .inl (zA v_p0_rules_after))), (a_p0_state, .inr (8, [.ref a_p0_state_pieces, .ref a_p0_state_friends, .ref a_p0_state_spoons, .ref a_p0_state_eaten, .ref a_p0_state_seen, .int (Int32.ofInt i_p0_state_seenDays), .int (Int32.ofInt i_p0_state_bone), .int (Int32.ofInt i_p0_state_king), .int (Int32.ofInt i_p0_state_days)])), (a_p0_state_pieces, .inl (G 1, 7, .inl (zA v_p0_state_pieces))), (a_p0_state_friends, .inl (G 1, 7, .inl (zA v_p0_state_friends))), (a_p0_state_spoons, .inl (G 1, 7, .inl (zA v_p0_state_spoons))), (a_p0_kitchen, .inr (2, [.ref a_p0_rules, .ref a_p0_state, .ref a_p0_kitchen_places, .ref a_p0_kitchen_holders, .ref a_p0_kitchen_stirred])), (a_p0_kitchen_places, .inl (G 1, 49, .inl (zA v_p0_kitchen_places))), (a_p0_kitchen_holders, .inl (G 1, 49, .inl (zA v_p0_kitchen_holders))), (a_p0_kitchen_stirred, .inl (G 1, 7, .inl (zA v_p0_kitchen_stirred))), (a_p0_coups, .inr (0, [.ref a_p0_kitchen]))]) (qcI D G (Int32.ofInt r) [(a_p0, .inr (11, [.ref a_p0_rules, .ref a_p0_state, .ref a_p0_tape, .ref a_p0_reader, .ref a_p0_kitchen, .ref a_p0_luck, .ref a_p0_plans, .ref a_p0_coups, .ref a_p0_past, .ref a_p0_fairDays, .ref a_p0_images, .ref a_p0_imageHeld, .ref a_p0_sheets, .int (Int32.ofInt i_p0_latestFault), .int (Int32.ofInt i_p0_latestTear)])), (a_p0_rules, .inr (6, [.int (Int32.ofInt i_p0_rules_seats), .int (Int32.ofInt i_p0_rules_stirs), .ref a_p0_rules_need, .ref a_p0_rules_kind, .ref a_p0_rules_first, .ref a_p0_rules_second, .ref a_p0_rules_after])), (a_p0_rules_after, .inl (G 1, 35, .inl (zA v_p0_rules_after))), (a_p0_state, .inr (8, [.ref a_p0_state_pieces, .ref a_p0_state_friends, .ref a_p0_state_spoons, .ref a_p0_state_eaten, .ref a_p0_state_seen, .int (Int32.ofInt i_p0_state_seenDays), .int (Int32.ofInt i_p0_state_bone), .int (Int32.ofInt i_p0_state_king), .int (Int32.ofInt i_p0_state_days)])), (a_p0_state_pieces, .inl (G 1, 7, .inl (zA v_p0_state_pieces))), (a_p0_state_friends, .inl (G 1, 7, .inl (zA v_p0_state_friends))), (a_p0_state_spoons, .inl (G 1, 7, .inl (zA v_p0_state_spoons))), (a_p0_kitchen, .inr (2, [.ref a_p0_rules, .ref a_p0_state, .ref a_p0_kitchen_places, .ref a_p0_kitchen_holders, .ref a_p0_kitchen_stirred])), (a_p0_kitchen_places, .inl (G 1, 49, .inl (zA o_v_p0_kitchen_places))), (a_p0_kitchen_holders, .inl (G 1, 49, .inl (zA o_v_p0_kitchen_holders))), (a_p0_kitchen_stirred, .inl (G 1, 7, .inl (zA o_v_p0_kitchen_stirred))), (a_p0_coups, .inr (0, [.ref a_p0_kitchen]))] (va_A [(a_p0, .inr (11, [.ref a_p0_rules, .ref a_p0_state, .ref a_p0_tape, .ref a_p0_reader, .ref a_p0_kitchen, .ref a_p0_luck, .ref a_p0_plans, .ref a_p0_coups, .ref a_p0_past, .ref a_p0_fairDays, .ref a_p0_images, .ref a_p0_imageHeld, .ref a_p0_sheets, .int (Int32.ofInt i_p0_latestFault), .int (Int32.ofInt i_p0_latestTear)])), (a_p0_rules, .inr (6, [.int (Int32.ofInt i_p0_rules_seats), .int (Int32.ofInt i_p0_rules_stirs), .ref a_p0_rules_need, .ref a_p0_rules_kind, .ref a_p0_rules_first, .ref a_p0_rules_second, .ref a_p0_rules_after])), (a_p0_rules_after, .inl (G 1, 35, .inl (zA v_p0_rules_after))), (a_p0_state, .inr (8, [.ref a_p0_state_pieces, .ref a_p0_state_friends, .ref a_p0_state_spoons, .ref a_p0_state_eaten, .ref a_p0_state_seen, .int (Int32.ofInt i_p0_state_seenDays), .int (Int32.ofInt i_p0_state_bone), .int (Int32.ofInt i_p0_state_king), .int (Int32.ofInt i_p0_state_days)])), (a_p0_state_pieces, .inl (G 1, 7, .inl (zA v_p0_state_pieces))), (a_p0_state_friends, .inl (G 1, 7, .inl (zA v_p0_state_friends))), (a_p0_state_spoons, .inl (G 1, 7, .inl (zA v_p0_state_spoons))), (a_p0_kitchen, .inr (2, [.ref a_p0_rules, .ref a_p0_state, .ref a_p0_kitchen_places, .ref a_p0_kitchen_holders, .ref a_p0_kitchen_stirred])), (a_p0_kitchen_places, .inl (G 1, 49, .inl (zA v_p0_kitchen_places))), (a_p0_kitchen_holders, .inl (G 1, 49, .inl (zA v_p0_kitchen_holders))), (a_p0_kitchen_stirred, .inl (G 1, 7, .inl (zA v_p0_kitchen_stirred))), (a_p0_coups, .inr (0, [.ref a_p0_kitchen]))] sz)) 0 0 (va_A [(a_p0, .inr (11, [.ref a_p0_rules, .ref a_p0_state, .ref a_p0_tape, .ref a_p0_reader, .ref a_p0_kitchen, .ref a_p0_luck, .ref a_p0_plans, .ref a_p0_coups, .ref a_p0_past, .ref a_p0_fairDays, .ref a_p0_images, .ref a_p0_imageHeld, .ref a_p0_sheets, .int (Int32.ofInt i_p0_latestFault), .int (Int32.ofInt i_p0_latestTear)])), (a_p0_rules, .inr (6, [.int (Int32.ofInt i_p0_rules_seats), .int (Int32.ofInt i_p0_rules_stirs), .ref a_p0_rules_need, .ref a_p0_rules_kind, .ref a_p0_rules_first, .ref a_p0_rules_second, .ref a_p0_rules_after])), (a_p0_rules_after, .inl (G 1, 35, .inl (zA v_p0_rules_after))), (a_p0_state, .inr (8, [.ref a_p0_state_pieces, .ref a_p0_state_friends, .ref a_p0_state_spoons, .ref a_p0_state_eaten, .ref a_p0_state_seen, .int (Int32.ofInt i_p0_state_seenDays), .int (Int32.ofInt i_p0_state_bone), .int (Int32.ofInt i_p0_state_king), .int (Int32.ofInt i_p0_state_days)])), (a_p0_state_pieces, .inl (G 1, 7, .inl (zA v_p0_state_pieces))), (a_p0_state_friends, .inl (G 1, 7, .inl (zA v_p0_state_friends))), (a_p0_state_spoons, .inl (G 1, 7, .inl (zA v_p0_state_spoons))), (a_p0_kitchen, .inr (2, [.ref a_p0_rules, .ref a_p0_state, .ref a_p0_kitchen_places, .ref a_p0_kitchen_holders, .ref a_p0_kitchen_stirred])), (a_p0_kitchen_places, .inl (G 1, 49, .inl (zA v_p0_kitchen_places))), (a_p0_kitchen_holders, .inl (G 1, 49, .inl (zA v_p0_kitchen_holders))), (a_p0_kitchen_stirred, .inl (G 1, 7, .inl (zA v_p0_kitchen_stirred))), (a_p0_coups, .inr (0, [.ref a_p0_kitchen]))] sz) := by
  refine Met.ofW (cc := cX11_coup) (maxL := 5) (ret := (some .int)) (by decide) rfl ?_
  intro p e s m args below meth c s₁ B hml hv
  obtain ⟨rfl, hsz, hP, hK, hD0⟩ := hv
  have hx := B.exec
  have hb := B.bytes
  have hr := B.returns
  have hts := atoms_spec (ws := wsX11_coup) B.pre
  have hown : s.vm.findClass RX11 = some m.cls := findClass_of_methodNamed B.named
  have hlocks := B.notSynchronized
  subst hsz
  have hD := hD0.self (sz := s.heap.size)
  generalize hAe : va_A [(a_p0, .inr (11, [.ref a_p0_rules, .ref a_p0_state, .ref a_p0_tape, .ref a_p0_reader, .ref a_p0_kitchen, .ref a_p0_luck, .ref a_p0_plans, .ref a_p0_coups, .ref a_p0_past, .ref a_p0_fairDays, .ref a_p0_images, .ref a_p0_imageHeld, .ref a_p0_sheets, .int (Int32.ofInt i_p0_latestFault), .int (Int32.ofInt i_p0_latestTear)])), (a_p0_rules, .inr (6, [.int (Int32.ofInt i_p0_rules_seats), .int (Int32.ofInt i_p0_rules_stirs), .ref a_p0_rules_need, .ref a_p0_rules_kind, .ref a_p0_rules_first, .ref a_p0_rules_second, .ref a_p0_rules_after])), (a_p0_rules_after, .inl (G 1, 35, .inl (zA v_p0_rules_after))), (a_p0_state, .inr (8, [.ref a_p0_state_pieces, .ref a_p0_state_friends, .ref a_p0_state_spoons, .ref a_p0_state_eaten, .ref a_p0_state_seen, .int (Int32.ofInt i_p0_state_seenDays), .int (Int32.ofInt i_p0_state_bone), .int (Int32.ofInt i_p0_state_king), .int (Int32.ofInt i_p0_state_days)])), (a_p0_state_pieces, .inl (G 1, 7, .inl (zA v_p0_state_pieces))), (a_p0_state_friends, .inl (G 1, 7, .inl (zA v_p0_state_friends))), (a_p0_state_spoons, .inl (G 1, 7, .inl (zA v_p0_state_spoons))), (a_p0_kitchen, .inr (2, [.ref a_p0_rules, .ref a_p0_state, .ref a_p0_kitchen_places, .ref a_p0_kitchen_holders, .ref a_p0_kitchen_stirred])), (a_p0_kitchen_places, .inl (G 1, 49, .inl (zA v_p0_kitchen_places))), (a_p0_kitchen_holders, .inl (G 1, 49, .inl (zA v_p0_kitchen_holders))), (a_p0_kitchen_stirred, .inl (G 1, 7, .inl (zA v_p0_kitchen_stirred))), (a_p0_coups, .inr (0, [.ref a_p0_kitchen]))] s.heap.size = A at hD ⊢
  have hA : ∀ q : Nat, s.heap.size ≤ q → A q := fun q h => by rw [← hAe]; exact Or.inr h
  clear hAe hD0
  have hS : va_S A s.heap s.heap [] := va_S.rf
  have hl := lv_entry ([.ref a_p0, .int (Int32.ofInt x1), .int (Int32.ofInt x2), .int (Int32.ofInt x3)]) (n := 5) (Nat.le_of_ble_eq_true rfl)
  rw [lg_entry_eq]
  generalize (lg_sl ([.ref a_p0, .int (Int32.ofInt x1), .int (Int32.ofInt x2), .int (Int32.ofInt x3)]) ++ List.replicate (5 - (lg_sl ([.ref a_p0, .int (Int32.ofInt x1), .int (Int32.ofInt x2), .int (Int32.ofInt x3)])).length) Slot.unset).toArray = ls at hl ⊢
  have hl : lv_has ls 5 [(0, .ref a_p0), (1, .int (Int32.ofInt x1)), (2, .int (Int32.ofInt x2)), (3, .int (Int32.ofInt x3))] := hl
  refine W_nameQ (fun Q hQ => ?_)
  obtain ⟨H, hH⟩ : ∃ H, H = s.heap := ⟨_, rfl⟩
  replace hS : va_S A s.heap H [] := by rw [hH]; exact hS
  replace hP : va_P D vwCl [(a_p0, .inr (11, [.ref a_p0_rules, .ref a_p0_state, .ref a_p0_tape, .ref a_p0_reader, .ref a_p0_kitchen, .ref a_p0_luck, .ref a_p0_plans, .ref a_p0_coups, .ref a_p0_past, .ref a_p0_fairDays, .ref a_p0_images, .ref a_p0_imageHeld, .ref a_p0_sheets, .int (Int32.ofInt i_p0_latestFault), .int (Int32.ofInt i_p0_latestTear)])), (a_p0_rules, .inr (6, [.int (Int32.ofInt i_p0_rules_seats), .int (Int32.ofInt i_p0_rules_stirs), .ref a_p0_rules_need, .ref a_p0_rules_kind, .ref a_p0_rules_first, .ref a_p0_rules_second, .ref a_p0_rules_after])), (a_p0_rules_after, .inl (G 1, 35, .inl (zA v_p0_rules_after))), (a_p0_state, .inr (8, [.ref a_p0_state_pieces, .ref a_p0_state_friends, .ref a_p0_state_spoons, .ref a_p0_state_eaten, .ref a_p0_state_seen, .int (Int32.ofInt i_p0_state_seenDays), .int (Int32.ofInt i_p0_state_bone), .int (Int32.ofInt i_p0_state_king), .int (Int32.ofInt i_p0_state_days)])), (a_p0_state_pieces, .inl (G 1, 7, .inl (zA v_p0_state_pieces))), (a_p0_state_friends, .inl (G 1, 7, .inl (zA v_p0_state_friends))), (a_p0_state_spoons, .inl (G 1, 7, .inl (zA v_p0_state_spoons))), (a_p0_kitchen, .inr (2, [.ref a_p0_rules, .ref a_p0_state, .ref a_p0_kitchen_places, .ref a_p0_kitchen_holders, .ref a_p0_kitchen_stirred])), (a_p0_kitchen_places, .inl (G 1, 49, .inl (zA v_p0_kitchen_places))), (a_p0_kitchen_holders, .inl (G 1, 49, .inl (zA v_p0_kitchen_holders))), (a_p0_kitchen_stirred, .inl (G 1, 7, .inl (zA v_p0_kitchen_stirred))), (a_p0_coups, .inr (0, [.ref a_p0_kitchen]))] H := by rw [hH]; exact hP
  rw [← hH]
  clear hH
  unfold f_X11_coup at hf
  refine lv_aload_n hx hb dX11_coup_0 rfl (lv_at hl 0 rfl) ?_
  refine va_get (D := D) (ci := 11) (v := .ref a_p0_rules) (C := RX11) (T := TX11) (N := 15) hx hb hts inX11_coup_X11 hown hK hP 0 rfl rfl 0 (by decide) (hts _ mwX11_coup_1) (fun _ h9 => h9) rfl dX11_coup_1 ?_
  refine lv_iload_n hx hb dX11_coup_4 rfl (lv_at hl 1 rfl) ?_
  have hq := bd1_s hf
  clear hf
  obtain ⟨z1, hcall, hf⟩ := hq
  refine gcI (ws' := [(a_p0, .inr (11, [.ref a_p0_rules, .ref a_p0_state, .ref a_p0_tape, .ref a_p0_reader, .ref a_p0_kitchen, .ref a_p0_luck, .ref a_p0_plans, .ref a_p0_coups, .ref a_p0_past, .ref a_p0_fairDays, .ref a_p0_images, .ref a_p0_imageHeld, .ref a_p0_sheets, .int (Int32.ofInt i_p0_latestFault), .int (Int32.ofInt i_p0_latestTear)])), (a_p0_rules, .inr (6, [.int (Int32.ofInt i_p0_rules_seats), .int (Int32.ofInt i_p0_rules_stirs), .ref a_p0_rules_need, .ref a_p0_rules_kind, .ref a_p0_rules_first, .ref a_p0_rules_second, .ref a_p0_rules_after])), (a_p0_rules_after, .inl (G 1, 35, .inl (zA v_p0_rules_after))), (a_p0_state, .inr (8, [.ref a_p0_state_pieces, .ref a_p0_state_friends, .ref a_p0_state_spoons, .ref a_p0_state_eaten, .ref a_p0_state_seen, .int (Int32.ofInt i_p0_state_seenDays), .int (Int32.ofInt i_p0_state_bone), .int (Int32.ofInt i_p0_state_king), .int (Int32.ofInt i_p0_state_days)])), (a_p0_state_pieces, .inl (G 1, 7, .inl (zA v_p0_state_pieces))), (a_p0_state_friends, .inl (G 1, 7, .inl (zA v_p0_state_friends))), (a_p0_state_spoons, .inl (G 1, 7, .inl (zA v_p0_state_spoons))), (a_p0_kitchen, .inr (2, [.ref a_p0_rules, .ref a_p0_state, .ref a_p0_kitchen_places, .ref a_p0_kitchen_holders, .ref a_p0_kitchen_stirred])), (a_p0_kitchen_places, .inl (G 1, 49, .inl (zA v_p0_kitchen_places))), (a_p0_kitchen_holders, .inl (G 1, 49, .inl (zA v_p0_kitchen_holders))), (a_p0_kitchen_stirred, .inl (G 1, 7, .inl (zA v_p0_kitchen_stirred))), (a_p0_coups, .inr (0, [.ref a_p0_kitchen]))]) (va_runV (As := [.int (Int32.ofInt x1)]) (rest := []) ⟨hx, hb, hml, hown, hts⟩ (c_X6_hasSeat (l := l) (D := D) (G := G) (sz := H.size) (a_p0 := a_p0_rules) (a_p0_need := a_p0_rules_need) (a_p0_kind := a_p0_rules_kind) (a_p0_first := a_p0_rules_first) (a_p0_second := a_p0_rules_second) (a_p0_after := a_p0_rules_after) (i_p0_seats := i_p0_rules_seats) (i_p0_stirs := i_p0_rules_stirs) (x1 := x1) (r := z1) (hf := hcall)) (cwV 1 hts gX11_coup_X6_hasSeat rfl rfl rfl (by decide +kernel) ⟨Nat.le_of_ble_eq_true rfl, Nat.le_of_ble_eq_true rfl⟩) (preG_V (ci := 6) (hP.sub [1] rfl) (hD.sub [1] rfl rfl) hK rfl rfl) rfl rfl hl.1 rfl (lv_room (Nat.le_of_ble_eq_true rfl)) dX11_coup_5 ⟨Nat.le_of_ble_eq_true rfl, Nat.le_of_ble_eq_true rfl⟩) hP hD hS hA [1] [0, 2, 3, 4, 5, 6, 7, 8, 9, 10, 11] [0, 11, 1, 2, 3, 4, 5, 6, 7, 8, 9, 10] rfl rfl rfl (by decide) rfl rfl rfl (fun H locs hP hD hS => ?_)
  clear hcall
  have hr1 := ck_c hf
  replace hf := ck_r hf
  refine lv_if_eq (tgt := 29) hx hb dX11_coup_8 (by decide) (fun cc => ?_) (fun cc => ?_)
  ·
    replace hf := ite_t ((z_eq0 hr1).mp cc) hf
    clear cc
    refine lv_iconst (v := Int32.ofInt (-1 : Int)) hx hb dX11_coup_29 (by decide) ?_
    obtain ⟨rfl, rfl, rfl, rfl⟩ := ou4 hf
    rw [hQ]
    exact W.iret hx hb hr (fun t ht hW => ⟨⟨_, (), rfl, rfl, by rw [ht]; exact hP, va_K.moved hW.alike hK, hD⟩, hS.F ht⟩) hS.2.2 dX11_coup_30
  ·
    replace hf := ite_f (fun h9 => cc ((z_eq0 hr1).mpr h9)) hf
    clear cc
    refine lv_aload_n hx hb dX11_coup_11 rfl (lv_at hl 0 rfl) ?_
    refine va_get (D := D) (ci := 11) (v := .ref a_p0_rules) (C := RX11) (T := TX11) (N := 15) hx hb hts inX11_coup_X11 hown hK hP 0 rfl rfl 0 (by decide) (hts _ mwX11_coup_1) (fun _ h9 => h9) rfl dX11_coup_12 ?_
    refine lv_iload_n hx hb dX11_coup_15 rfl (lv_at hl 2 rfl) ?_
    have hq := bd1_s hf
    clear hf
    obtain ⟨z3, hcall, hf⟩ := hq
    refine gcI (ws' := [(a_p0, .inr (11, [.ref a_p0_rules, .ref a_p0_state, .ref a_p0_tape, .ref a_p0_reader, .ref a_p0_kitchen, .ref a_p0_luck, .ref a_p0_plans, .ref a_p0_coups, .ref a_p0_past, .ref a_p0_fairDays, .ref a_p0_images, .ref a_p0_imageHeld, .ref a_p0_sheets, .int (Int32.ofInt i_p0_latestFault), .int (Int32.ofInt i_p0_latestTear)])), (a_p0_rules, .inr (6, [.int (Int32.ofInt i_p0_rules_seats), .int (Int32.ofInt i_p0_rules_stirs), .ref a_p0_rules_need, .ref a_p0_rules_kind, .ref a_p0_rules_first, .ref a_p0_rules_second, .ref a_p0_rules_after])), (a_p0_rules_after, .inl (G 1, 35, .inl (zA v_p0_rules_after))), (a_p0_state, .inr (8, [.ref a_p0_state_pieces, .ref a_p0_state_friends, .ref a_p0_state_spoons, .ref a_p0_state_eaten, .ref a_p0_state_seen, .int (Int32.ofInt i_p0_state_seenDays), .int (Int32.ofInt i_p0_state_bone), .int (Int32.ofInt i_p0_state_king), .int (Int32.ofInt i_p0_state_days)])), (a_p0_state_pieces, .inl (G 1, 7, .inl (zA v_p0_state_pieces))), (a_p0_state_friends, .inl (G 1, 7, .inl (zA v_p0_state_friends))), (a_p0_state_spoons, .inl (G 1, 7, .inl (zA v_p0_state_spoons))), (a_p0_kitchen, .inr (2, [.ref a_p0_rules, .ref a_p0_state, .ref a_p0_kitchen_places, .ref a_p0_kitchen_holders, .ref a_p0_kitchen_stirred])), (a_p0_kitchen_places, .inl (G 1, 49, .inl (zA v_p0_kitchen_places))), (a_p0_kitchen_holders, .inl (G 1, 49, .inl (zA v_p0_kitchen_holders))), (a_p0_kitchen_stirred, .inl (G 1, 7, .inl (zA v_p0_kitchen_stirred))), (a_p0_coups, .inr (0, [.ref a_p0_kitchen]))]) (va_runV (As := [.int (Int32.ofInt x2)]) (rest := []) ⟨hx, hb, hml, hown, hts⟩ (c_X6_hasStir (l := l) (D := D) (G := G) (sz := H.size) (a_p0 := a_p0_rules) (a_p0_need := a_p0_rules_need) (a_p0_kind := a_p0_rules_kind) (a_p0_first := a_p0_rules_first) (a_p0_second := a_p0_rules_second) (a_p0_after := a_p0_rules_after) (i_p0_seats := i_p0_rules_seats) (i_p0_stirs := i_p0_rules_stirs) (x1 := x2) (r := z3) (hf := hcall)) (cwV 1 hts gX11_coup_X6_hasStir rfl rfl rfl (by decide +kernel) ⟨Nat.le_of_ble_eq_true rfl, Nat.le_of_ble_eq_true rfl⟩) (preG_V (ci := 6) (hP.sub [1] rfl) (hD.sub [1] rfl rfl) hK rfl rfl) rfl rfl hl.1 rfl (lv_room (Nat.le_of_ble_eq_true rfl)) dX11_coup_16 ⟨Nat.le_of_ble_eq_true rfl, Nat.le_of_ble_eq_true rfl⟩) hP hD hS hA [1] [0, 2, 3, 4, 5, 6, 7, 8, 9, 10, 11] [0, 11, 1, 2, 3, 4, 5, 6, 7, 8, 9, 10] rfl rfl rfl (by decide) rfl rfl rfl (fun H locs hP hD hS => ?_)
    clear hcall
    have hr3 := ck_c hf
    replace hf := ck_r hf
    refine lv_if_eq (tgt := 29) hx hb dX11_coup_19 (by decide) (fun cc => ?_) (fun cc => ?_)
    ·
      replace hf := ite_t ((z_eq0 hr3).mp cc) hf
      clear cc
      refine lv_iconst (v := Int32.ofInt (-1 : Int)) hx hb dX11_coup_29 (by decide) ?_
      obtain ⟨rfl, rfl, rfl, rfl⟩ := ou4 hf
      rw [hQ]
      exact W.iret hx hb hr (fun t ht hW => ⟨⟨_, (), rfl, rfl, by rw [ht]; exact hP, va_K.moved hW.alike hK, hD⟩, hS.F ht⟩) hS.2.2 dX11_coup_30
    ·
      replace hf := ite_f (fun h9 => cc ((z_eq0 hr3).mpr h9)) hf
      clear cc
      refine lv_iload_n hx hb dX11_coup_22 rfl (lv_at hl 3 rfl) ?_
      have hq := bd1_s hf
      clear hf
      obtain ⟨z5, hcall, hf⟩ := hq
      refine gcI (ws' := [(a_p0, .inr (11, [.ref a_p0_rules, .ref a_p0_state, .ref a_p0_tape, .ref a_p0_reader, .ref a_p0_kitchen, .ref a_p0_luck, .ref a_p0_plans, .ref a_p0_coups, .ref a_p0_past, .ref a_p0_fairDays, .ref a_p0_images, .ref a_p0_imageHeld, .ref a_p0_sheets, .int (Int32.ofInt i_p0_latestFault), .int (Int32.ofInt i_p0_latestTear)])), (a_p0_rules, .inr (6, [.int (Int32.ofInt i_p0_rules_seats), .int (Int32.ofInt i_p0_rules_stirs), .ref a_p0_rules_need, .ref a_p0_rules_kind, .ref a_p0_rules_first, .ref a_p0_rules_second, .ref a_p0_rules_after])), (a_p0_rules_after, .inl (G 1, 35, .inl (zA v_p0_rules_after))), (a_p0_state, .inr (8, [.ref a_p0_state_pieces, .ref a_p0_state_friends, .ref a_p0_state_spoons, .ref a_p0_state_eaten, .ref a_p0_state_seen, .int (Int32.ofInt i_p0_state_seenDays), .int (Int32.ofInt i_p0_state_bone), .int (Int32.ofInt i_p0_state_king), .int (Int32.ofInt i_p0_state_days)])), (a_p0_state_pieces, .inl (G 1, 7, .inl (zA v_p0_state_pieces))), (a_p0_state_friends, .inl (G 1, 7, .inl (zA v_p0_state_friends))), (a_p0_state_spoons, .inl (G 1, 7, .inl (zA v_p0_state_spoons))), (a_p0_kitchen, .inr (2, [.ref a_p0_rules, .ref a_p0_state, .ref a_p0_kitchen_places, .ref a_p0_kitchen_holders, .ref a_p0_kitchen_stirred])), (a_p0_kitchen_places, .inl (G 1, 49, .inl (zA v_p0_kitchen_places))), (a_p0_kitchen_holders, .inl (G 1, 49, .inl (zA v_p0_kitchen_holders))), (a_p0_kitchen_stirred, .inl (G 1, 7, .inl (zA v_p0_kitchen_stirred))), (a_p0_coups, .inr (0, [.ref a_p0_kitchen]))]) (va_runS (As := [.int (Int32.ofInt x3)]) (rest := []) ⟨hx, hb, hml, hown, hts⟩ (c_X11_isPart (l := l) (D := D) (G := G) (sz := H.size) (x0 := x3) (r := z5) (hf := hcall)) (va_cwS 1 hts gX11_coup_X11_isPart rfl rfl rfl (by decide +kernel) ⟨Nat.le_of_ble_eq_true rfl, Nat.le_of_ble_eq_true rfl⟩) (preG_S (hP.sub [] rfl) (hD.sub [] rfl rfl) hK) rfl rfl hl.1 rfl (lv_room (Nat.le_of_ble_eq_true rfl)) dX11_coup_23 ⟨Nat.le_of_ble_eq_true rfl, Nat.le_of_ble_eq_true rfl⟩) hP hD hS hA [] [0, 1, 2, 3, 4, 5, 6, 7, 8, 9, 10, 11] [0, 1, 2, 3, 4, 5, 6, 7, 8, 9, 10, 11] rfl rfl rfl (by decide) rfl rfl rfl (fun H locs hP hD hS => ?_)
      clear hcall
      have hr5 := ck_c hf
      replace hf := ck_r hf
      refine lv_if_ne (tgt := 31) hx hb dX11_coup_26 (by decide) (fun cc => ?_) (fun cc => ?_)
      ·
        replace hf := ite_f (fun h9 => cc ((z_eq0 hr5).mpr h9)) hf
        clear cc
        refine lv_aload_n hx hb dX11_coup_31 rfl (lv_at hl 0 rfl) ?_
        refine va_get (D := D) (ci := 11) (v := .ref a_p0_kitchen) (C := RX11) (T := TX11) (N := 15) hx hb hts inX11_coup_X11 hown hK hP 0 rfl rfl 4 (by decide) (hts _ mwX11_coup_2) (fun _ h9 => h9) rfl dX11_coup_32 ?_
        have hq := bd2_s hf
        clear hf
        obtain ⟨w7, w8, hcall, hf⟩ := hq
        refine gcV (ws' := [(a_p0, .inr (11, [.ref a_p0_rules, .ref a_p0_state, .ref a_p0_tape, .ref a_p0_reader, .ref a_p0_kitchen, .ref a_p0_luck, .ref a_p0_plans, .ref a_p0_coups, .ref a_p0_past, .ref a_p0_fairDays, .ref a_p0_images, .ref a_p0_imageHeld, .ref a_p0_sheets, .int (Int32.ofInt i_p0_latestFault), .int (Int32.ofInt i_p0_latestTear)])), (a_p0_rules, .inr (6, [.int (Int32.ofInt i_p0_rules_seats), .int (Int32.ofInt i_p0_rules_stirs), .ref a_p0_rules_need, .ref a_p0_rules_kind, .ref a_p0_rules_first, .ref a_p0_rules_second, .ref a_p0_rules_after])), (a_p0_rules_after, .inl (G 1, 35, .inl (zA v_p0_rules_after))), (a_p0_state, .inr (8, [.ref a_p0_state_pieces, .ref a_p0_state_friends, .ref a_p0_state_spoons, .ref a_p0_state_eaten, .ref a_p0_state_seen, .int (Int32.ofInt i_p0_state_seenDays), .int (Int32.ofInt i_p0_state_bone), .int (Int32.ofInt i_p0_state_king), .int (Int32.ofInt i_p0_state_days)])), (a_p0_state_pieces, .inl (G 1, 7, .inl (zA v_p0_state_pieces))), (a_p0_state_friends, .inl (G 1, 7, .inl (zA v_p0_state_friends))), (a_p0_state_spoons, .inl (G 1, 7, .inl (zA v_p0_state_spoons))), (a_p0_kitchen, .inr (2, [.ref a_p0_rules, .ref a_p0_state, .ref a_p0_kitchen_places, .ref a_p0_kitchen_holders, .ref a_p0_kitchen_stirred])), (a_p0_kitchen_places, .inl (G 1, 49, .inl (zA w7))), (a_p0_kitchen_holders, .inl (G 1, 49, .inl (zA w8))), (a_p0_kitchen_stirred, .inl (G 1, 7, .inl (zA v_p0_kitchen_stirred))), (a_p0_coups, .inr (0, [.ref a_p0_kitchen]))]) (va_runV (As := []) (rest := []) ⟨hx, hb, hml, hown, hts⟩ (c_X2_serveAllKings (l := l) (D := D) (G := G) (sz := H.size) (a_p0 := a_p0_kitchen) (a_p0_rules := a_p0_rules) (a_p0_state := a_p0_state) (a_p0_places := a_p0_kitchen_places) (a_p0_holders := a_p0_kitchen_holders) (a_p0_stirred := a_p0_kitchen_stirred) (a_p0_rules_need := a_p0_rules_need) (a_p0_rules_kind := a_p0_rules_kind) (a_p0_rules_first := a_p0_rules_first) (a_p0_rules_second := a_p0_rules_second) (a_p0_rules_after := a_p0_rules_after) (a_p0_state_pieces := a_p0_state_pieces) (a_p0_state_friends := a_p0_state_friends) (a_p0_state_spoons := a_p0_state_spoons) (a_p0_state_eaten := a_p0_state_eaten) (a_p0_state_seen := a_p0_state_seen) (i_p0_rules_seats := i_p0_rules_seats) (i_p0_rules_stirs := i_p0_rules_stirs) (i_p0_state_seenDays := i_p0_state_seenDays) (i_p0_state_bone := i_p0_state_bone) (i_p0_state_king := i_p0_state_king) (i_p0_state_days := i_p0_state_days) (v_p0_state_friends := v_p0_state_friends) (v_p0_places := v_p0_kitchen_places) (v_p0_holders := v_p0_kitchen_holders) (o_v_p0_places := w7) (o_v_p0_holders := w8) (hf := hcall)) (cwV 0 hts gX11_coup_X2_serveAllKings rfl rfl rfl (by decide +kernel) ⟨Nat.le_of_ble_eq_true rfl, Nat.le_of_ble_eq_true rfl⟩) (preG_V (ci := 2) (hP.sub [7, 1, 3, 5, 8, 9] rfl) (hD.sub [7, 1, 3, 5, 8, 9] rfl rfl) hK rfl rfl) rfl rfl hl.1 rfl (lv_room (Nat.le_of_ble_eq_true rfl)) dX11_coup_35 ⟨Nat.le_of_ble_eq_true rfl, Nat.le_of_ble_eq_true rfl⟩) hP hD hS hA [7, 1, 3, 5, 8, 9] [0, 2, 4, 6, 10, 11] [0, 7, 1, 8, 2, 9, 3, 6, 10, 11, 4, 5] rfl rfl rfl (by decide) rfl rfl rfl (fun H locs hP hD hS => ?_)
        clear hcall
        refine lv_aload_n hx hb dX11_coup_38 rfl (lv_at hl 0 rfl) ?_
        refine va_get (D := D) (ci := 11) (v := .ref a_p0_kitchen) (C := RX11) (T := TX11) (N := 15) hx hb hts inX11_coup_X11 hown hK hP 0 rfl rfl 4 (by decide) (hts _ mwX11_coup_2) (fun _ h9 => h9) rfl dX11_coup_39 ?_
        refine lv_iload_n hx hb dX11_coup_42 rfl (lv_at hl 2 rfl) ?_
        have hq := bd1_s hf
        clear hf
        obtain ⟨w9, hcall, hf⟩ := hq
        refine gcV (ws' := [(a_p0, .inr (11, [.ref a_p0_rules, .ref a_p0_state, .ref a_p0_tape, .ref a_p0_reader, .ref a_p0_kitchen, .ref a_p0_luck, .ref a_p0_plans, .ref a_p0_coups, .ref a_p0_past, .ref a_p0_fairDays, .ref a_p0_images, .ref a_p0_imageHeld, .ref a_p0_sheets, .int (Int32.ofInt i_p0_latestFault), .int (Int32.ofInt i_p0_latestTear)])), (a_p0_rules, .inr (6, [.int (Int32.ofInt i_p0_rules_seats), .int (Int32.ofInt i_p0_rules_stirs), .ref a_p0_rules_need, .ref a_p0_rules_kind, .ref a_p0_rules_first, .ref a_p0_rules_second, .ref a_p0_rules_after])), (a_p0_rules_after, .inl (G 1, 35, .inl (zA v_p0_rules_after))), (a_p0_state, .inr (8, [.ref a_p0_state_pieces, .ref a_p0_state_friends, .ref a_p0_state_spoons, .ref a_p0_state_eaten, .ref a_p0_state_seen, .int (Int32.ofInt i_p0_state_seenDays), .int (Int32.ofInt i_p0_state_bone), .int (Int32.ofInt i_p0_state_king), .int (Int32.ofInt i_p0_state_days)])), (a_p0_state_pieces, .inl (G 1, 7, .inl (zA v_p0_state_pieces))), (a_p0_state_friends, .inl (G 1, 7, .inl (zA v_p0_state_friends))), (a_p0_state_spoons, .inl (G 1, 7, .inl (zA v_p0_state_spoons))), (a_p0_kitchen, .inr (2, [.ref a_p0_rules, .ref a_p0_state, .ref a_p0_kitchen_places, .ref a_p0_kitchen_holders, .ref a_p0_kitchen_stirred])), (a_p0_kitchen_places, .inl (G 1, 49, .inl (zA w7))), (a_p0_kitchen_holders, .inl (G 1, 49, .inl (zA w8))), (a_p0_kitchen_stirred, .inl (G 1, 7, .inl (zA w9))), (a_p0_coups, .inr (0, [.ref a_p0_kitchen]))]) (va_runV (As := [.int (Int32.ofInt x2)]) (rest := []) ⟨hx, hb, hml, hown, hts⟩ (c_X2_stirPot (l := l) (D := D) (G := G) (sz := H.size) (a_p0 := a_p0_kitchen) (a_p0_rules := a_p0_rules) (a_p0_state := a_p0_state) (a_p0_places := a_p0_kitchen_places) (a_p0_holders := a_p0_kitchen_holders) (a_p0_stirred := a_p0_kitchen_stirred) (a_p0_rules_need := a_p0_rules_need) (a_p0_rules_kind := a_p0_rules_kind) (a_p0_rules_first := a_p0_rules_first) (a_p0_rules_second := a_p0_rules_second) (a_p0_rules_after := a_p0_rules_after) (a_p0_state_pieces := a_p0_state_pieces) (a_p0_state_friends := a_p0_state_friends) (a_p0_state_spoons := a_p0_state_spoons) (a_p0_state_eaten := a_p0_state_eaten) (a_p0_state_seen := a_p0_state_seen) (i_p0_rules_seats := i_p0_rules_seats) (i_p0_rules_stirs := i_p0_rules_stirs) (v_p0_rules_after := v_p0_rules_after) (i_p0_state_seenDays := i_p0_state_seenDays) (i_p0_state_bone := i_p0_state_bone) (i_p0_state_king := i_p0_state_king) (i_p0_state_days := i_p0_state_days) (v_p0_state_pieces := v_p0_state_pieces) (v_p0_stirred := v_p0_kitchen_stirred) (x1 := x2) (o_v_p0_stirred := w9) (hf := hcall)) (cwV 1 hts gX11_coup_X2_stirPot rfl rfl rfl (by decide +kernel) ⟨Nat.le_of_ble_eq_true rfl, Nat.le_of_ble_eq_true rfl⟩) (preG_V (ci := 2) (hP.sub [7, 1, 2, 3, 4, 10] rfl) (hD.sub [7, 1, 2, 3, 4, 10] rfl rfl) hK rfl rfl) rfl rfl hl.1 rfl (lv_room (Nat.le_of_ble_eq_true rfl)) dX11_coup_43 ⟨Nat.le_of_ble_eq_true rfl, Nat.le_of_ble_eq_true rfl⟩) hP hD hS hA [7, 1, 2, 3, 4, 10] [0, 5, 6, 8, 9, 11] [0, 7, 8, 9, 10, 1, 2, 6, 3, 4, 11, 5] rfl rfl rfl (by decide) rfl rfl rfl (fun H locs hP hD hS => ?_)
        clear hcall
        refine lv_aload_n hx hb dX11_coup_46 rfl (lv_at hl 0 rfl) ?_
        refine va_get (D := D) (ci := 11) (v := .ref a_p0_coups) (C := RX11) (T := TX11) (N := 15) hx hb hts inX11_coup_X11 hown hK hP 0 rfl rfl 7 (by decide) (hts _ mwX11_coup_3) (fun _ h9 => h9) rfl dX11_coup_47 ?_
        refine lv_iload_n hx hb dX11_coup_50 rfl (lv_at hl 1 rfl) ?_
        have hq := bd1_s hf
        clear hf
        obtain ⟨z10, hcall, hf⟩ := hq
        refine gcI (ws' := [(a_p0, .inr (11, [.ref a_p0_rules, .ref a_p0_state, .ref a_p0_tape, .ref a_p0_reader, .ref a_p0_kitchen, .ref a_p0_luck, .ref a_p0_plans, .ref a_p0_coups, .ref a_p0_past, .ref a_p0_fairDays, .ref a_p0_images, .ref a_p0_imageHeld, .ref a_p0_sheets, .int (Int32.ofInt i_p0_latestFault), .int (Int32.ofInt i_p0_latestTear)])), (a_p0_rules, .inr (6, [.int (Int32.ofInt i_p0_rules_seats), .int (Int32.ofInt i_p0_rules_stirs), .ref a_p0_rules_need, .ref a_p0_rules_kind, .ref a_p0_rules_first, .ref a_p0_rules_second, .ref a_p0_rules_after])), (a_p0_rules_after, .inl (G 1, 35, .inl (zA v_p0_rules_after))), (a_p0_state, .inr (8, [.ref a_p0_state_pieces, .ref a_p0_state_friends, .ref a_p0_state_spoons, .ref a_p0_state_eaten, .ref a_p0_state_seen, .int (Int32.ofInt i_p0_state_seenDays), .int (Int32.ofInt i_p0_state_bone), .int (Int32.ofInt i_p0_state_king), .int (Int32.ofInt i_p0_state_days)])), (a_p0_state_pieces, .inl (G 1, 7, .inl (zA v_p0_state_pieces))), (a_p0_state_friends, .inl (G 1, 7, .inl (zA v_p0_state_friends))), (a_p0_state_spoons, .inl (G 1, 7, .inl (zA v_p0_state_spoons))), (a_p0_kitchen, .inr (2, [.ref a_p0_rules, .ref a_p0_state, .ref a_p0_kitchen_places, .ref a_p0_kitchen_holders, .ref a_p0_kitchen_stirred])), (a_p0_kitchen_places, .inl (G 1, 49, .inl (zA w7))), (a_p0_kitchen_holders, .inl (G 1, 49, .inl (zA w8))), (a_p0_kitchen_stirred, .inl (G 1, 7, .inl (zA w9))), (a_p0_coups, .inr (0, [.ref a_p0_kitchen]))]) (va_runV (As := [.int (Int32.ofInt x1)]) (rest := []) ⟨hx, hb, hml, hown, hts⟩ (c_X0_leastLeader (l := l) (D := D) (G := G) (sz := H.size) (a_p0 := a_p0_coups) (a_p0_kitchen := a_p0_kitchen) (a_p0_kitchen_rules := a_p0_rules) (a_p0_kitchen_state := a_p0_state) (a_p0_kitchen_places := a_p0_kitchen_places) (a_p0_kitchen_holders := a_p0_kitchen_holders) (a_p0_kitchen_stirred := a_p0_kitchen_stirred) (a_p0_kitchen_rules_need := a_p0_rules_need) (a_p0_kitchen_rules_kind := a_p0_rules_kind) (a_p0_kitchen_rules_first := a_p0_rules_first) (a_p0_kitchen_rules_second := a_p0_rules_second) (a_p0_kitchen_rules_after := a_p0_rules_after) (a_p0_kitchen_state_pieces := a_p0_state_pieces) (a_p0_kitchen_state_friends := a_p0_state_friends) (a_p0_kitchen_state_spoons := a_p0_state_spoons) (a_p0_kitchen_state_eaten := a_p0_state_eaten) (a_p0_kitchen_state_seen := a_p0_state_seen) (i_p0_kitchen_rules_seats := i_p0_rules_seats) (i_p0_kitchen_rules_stirs := i_p0_rules_stirs) (i_p0_kitchen_state_seenDays := i_p0_state_seenDays) (i_p0_kitchen_state_bone := i_p0_state_bone) (i_p0_kitchen_state_king := i_p0_state_king) (i_p0_kitchen_state_days := i_p0_state_days) (v_p0_kitchen_state_spoons := v_p0_state_spoons) (v_p0_kitchen_places := w7) (v_p0_kitchen_stirred := w9) (x1 := x1) (r := z10) (hf := hcall)) (cwV 1 hts gX11_coup_X0_leastLeader rfl rfl rfl (by decide +kernel) ⟨Nat.le_of_ble_eq_true rfl, Nat.le_of_ble_eq_true rfl⟩) (preG_V (ci := 0) (hP.sub [11, 7, 1, 3, 6, 8, 10] rfl) (hD.sub [11, 7, 1, 3, 6, 8, 10] rfl rfl) hK rfl rfl) rfl rfl hl.1 rfl (lv_room (Nat.le_of_ble_eq_true rfl)) dX11_coup_51 ⟨Nat.le_of_ble_eq_true rfl, Nat.le_of_ble_eq_true rfl⟩) hP hD hS hA [11, 7, 1, 3, 6, 8, 10] [0, 2, 4, 5, 9] [0, 7, 1, 8, 2, 3, 9, 6, 10, 4, 11, 5] rfl rfl rfl (by decide) rfl rfl rfl (fun H locs hP hD hS => ?_)
        clear hcall
        refine z_topi (fun z11 ez => ?_)
        replace hf := bnd_s hf ez
        clear ez
        refine lv_istore (lv' := [(4, .int (Int32.ofInt z11)), (0, .ref a_p0), (1, .int (Int32.ofInt x1)), (2, .int (Int32.ofInt x2)), (3, .int (Int32.ofInt x3))]) hx hb dX11_coup_54 hl (by decide) rfl (fun ls hl => ?_)
        refine lv_iload hx hb dX11_coup_56 (lv_at hl 0 rfl) ?_
        refine lv_bipush (v := Int32.ofInt (-4 : Int)) hx hb dX11_coup_58 (by decide) ?_
        have hr11 := ck_c hf
        replace hf := ck_r hf
        refine lv_icmp_eq (tgt := 67) hx hb dX11_coup_60 (by decide) (fun cc => ?_) (fun cc => ?_)
        ·
          replace hf := ite_t ((z_eq hr11 (by decide)).mp cc) hf
          clear cc
          refine lv_iload hx hb dX11_coup_67 (lv_at hl 0 rfl) ?_
          obtain ⟨rfl, rfl, rfl, rfl⟩ := ou4 hf
          rw [hQ]
          exact W.iret hx hb hr (fun t ht hW => ⟨⟨_, (), rfl, rfl, by rw [ht]; exact hP, va_K.moved hW.alike hK, hD⟩, hS.F ht⟩) hS.2.2 dX11_coup_69
        ·
          replace hf := ite_f (fun h9 => cc ((z_eq hr11 (by decide)).mpr h9)) hf
          clear cc
          refine lv_iload_n hx hb dX11_coup_63 rfl (lv_at hl 4 rfl) ?_
          have hr12 := ck_c hf
          replace hf := ck_r hf
          refine lv_if_ne (tgt := 70) hx hb dX11_coup_64 (by decide) (fun cc => ?_) (fun cc => ?_)
          ·
            replace hf := ite_f (fun h9 => cc ((z_eq0 hr12).mpr h9)) hf
            clear cc
            refine lv_aload_n hx hb dX11_coup_70 rfl (lv_at hl 1 rfl) ?_
            refine va_get (D := D) (ci := 11) (v := .ref a_p0_coups) (C := RX11) (T := TX11) (N := 15) hx hb hts inX11_coup_X11 hown hK hP 0 rfl rfl 7 (by decide) (hts _ mwX11_coup_3) (fun _ h9 => h9) rfl dX11_coup_71 ?_
            refine lv_iload_n hx hb dX11_coup_74 rfl (lv_at hl 2 rfl) ?_
            refine lv_iload hx hb dX11_coup_75 (lv_at hl 0 rfl) ?_
            have hq := bd1_s hf
            clear hf
            obtain ⟨z14, hcall, hf⟩ := hq
            refine gcI (ws' := [(a_p0, .inr (11, [.ref a_p0_rules, .ref a_p0_state, .ref a_p0_tape, .ref a_p0_reader, .ref a_p0_kitchen, .ref a_p0_luck, .ref a_p0_plans, .ref a_p0_coups, .ref a_p0_past, .ref a_p0_fairDays, .ref a_p0_images, .ref a_p0_imageHeld, .ref a_p0_sheets, .int (Int32.ofInt i_p0_latestFault), .int (Int32.ofInt i_p0_latestTear)])), (a_p0_rules, .inr (6, [.int (Int32.ofInt i_p0_rules_seats), .int (Int32.ofInt i_p0_rules_stirs), .ref a_p0_rules_need, .ref a_p0_rules_kind, .ref a_p0_rules_first, .ref a_p0_rules_second, .ref a_p0_rules_after])), (a_p0_rules_after, .inl (G 1, 35, .inl (zA v_p0_rules_after))), (a_p0_state, .inr (8, [.ref a_p0_state_pieces, .ref a_p0_state_friends, .ref a_p0_state_spoons, .ref a_p0_state_eaten, .ref a_p0_state_seen, .int (Int32.ofInt i_p0_state_seenDays), .int (Int32.ofInt i_p0_state_bone), .int (Int32.ofInt i_p0_state_king), .int (Int32.ofInt i_p0_state_days)])), (a_p0_state_pieces, .inl (G 1, 7, .inl (zA v_p0_state_pieces))), (a_p0_state_friends, .inl (G 1, 7, .inl (zA v_p0_state_friends))), (a_p0_state_spoons, .inl (G 1, 7, .inl (zA v_p0_state_spoons))), (a_p0_kitchen, .inr (2, [.ref a_p0_rules, .ref a_p0_state, .ref a_p0_kitchen_places, .ref a_p0_kitchen_holders, .ref a_p0_kitchen_stirred])), (a_p0_kitchen_places, .inl (G 1, 49, .inl (zA w7))), (a_p0_kitchen_holders, .inl (G 1, 49, .inl (zA w8))), (a_p0_kitchen_stirred, .inl (G 1, 7, .inl (zA w9))), (a_p0_coups, .inr (0, [.ref a_p0_kitchen]))]) (va_runV (As := [.int (Int32.ofInt x1), .int (Int32.ofInt z11)]) (rest := []) ⟨hx, hb, hml, hown, hts⟩ (c_X0_leastBand (l := l) (D := D) (G := G) (sz := H.size) (a_p0 := a_p0_coups) (a_p0_kitchen := a_p0_kitchen) (a_p0_kitchen_rules := a_p0_rules) (a_p0_kitchen_state := a_p0_state) (a_p0_kitchen_places := a_p0_kitchen_places) (a_p0_kitchen_holders := a_p0_kitchen_holders) (a_p0_kitchen_stirred := a_p0_kitchen_stirred) (a_p0_kitchen_rules_need := a_p0_rules_need) (a_p0_kitchen_rules_kind := a_p0_rules_kind) (a_p0_kitchen_rules_first := a_p0_rules_first) (a_p0_kitchen_rules_second := a_p0_rules_second) (a_p0_kitchen_rules_after := a_p0_rules_after) (a_p0_kitchen_state_pieces := a_p0_state_pieces) (a_p0_kitchen_state_friends := a_p0_state_friends) (a_p0_kitchen_state_spoons := a_p0_state_spoons) (a_p0_kitchen_state_eaten := a_p0_state_eaten) (a_p0_kitchen_state_seen := a_p0_state_seen) (i_p0_kitchen_rules_seats := i_p0_rules_seats) (i_p0_kitchen_rules_stirs := i_p0_rules_stirs) (i_p0_kitchen_state_seenDays := i_p0_state_seenDays) (i_p0_kitchen_state_bone := i_p0_state_bone) (i_p0_kitchen_state_king := i_p0_state_king) (i_p0_kitchen_state_days := i_p0_state_days) (v_p0_kitchen_state_spoons := v_p0_state_spoons) (v_p0_kitchen_places := w7) (v_p0_kitchen_stirred := w9) (x1 := x1) (x2 := z11) (r := z14) (hf := hcall)) (cwV 2 hts gX11_coup_X0_leastBand rfl rfl rfl (by decide +kernel) ⟨Nat.le_of_ble_eq_true rfl, Nat.le_of_ble_eq_true rfl⟩) (preG_V (ci := 0) (hP.sub [11, 7, 1, 3, 6, 8, 10] rfl) (hD.sub [11, 7, 1, 3, 6, 8, 10] rfl rfl) hK rfl rfl) rfl rfl hl.1 rfl (lv_room (Nat.le_of_ble_eq_true rfl)) dX11_coup_77 ⟨Nat.le_of_ble_eq_true rfl, Nat.le_of_ble_eq_true rfl⟩) hP hD hS hA [11, 7, 1, 3, 6, 8, 10] [0, 2, 4, 5, 9] [0, 7, 1, 8, 2, 3, 9, 6, 10, 4, 11, 5] rfl rfl rfl (by decide) rfl rfl rfl (fun H locs hP hD hS => ?_)
            clear hcall
            obtain ⟨rfl, rfl, rfl, rfl⟩ := ou4 hf
            rw [hQ]
            exact W.iret hx hb hr (fun t ht hW => ⟨⟨_, (), rfl, rfl, by rw [ht]; exact hP, va_K.moved hW.alike hK, hD⟩, hS.F ht⟩) hS.2.2 dX11_coup_80
          ·
            replace hf := ite_t ((z_eq0 hr12).mp cc) hf
            clear cc
            refine lv_iload hx hb dX11_coup_67 (lv_at hl 0 rfl) ?_
            obtain ⟨rfl, rfl, rfl, rfl⟩ := ou4 hf
            rw [hQ]
            exact W.iret hx hb hr (fun t ht hW => ⟨⟨_, (), rfl, rfl, by rw [ht]; exact hP, va_K.moved hW.alike hK, hD⟩, hS.F ht⟩) hS.2.2 dX11_coup_69
      ·
        replace hf := ite_t ((z_eq0 hr5).mp cc) hf
        clear cc
        refine lv_iconst (v := Int32.ofInt (-1 : Int)) hx hb dX11_coup_29 (by decide) ?_
        obtain ⟨rfl, rfl, rfl, rfl⟩ := ou4 hf
        rw [hQ]
        exact W.iret hx hb hr (fun t ht hW => ⟨⟨_, (), rfl, rfl, by rw [ht]; exact hP, va_K.moved hW.alike hK, hD⟩, hS.F ht⟩) hS.2.2 dX11_coup_30

noncomputable def B_X11_firm_32 (i_p0_rules_seats : Int) (w3 : (Int → Int)) (w4 : (Int → Int)) (w5 : (Int → Int)) (v_p0_state_spoons : (Int → Int)) (again32 : Int → Int → Option (Int × (Int → Int) × (Int → Int) × (Int → Int))) (z8 : Int) (z9 : Int) : Option (Int × (Int → Int) × (Int → Int) × (Int → Int)) := (ck (z_r32 z8) (ck (z_r32 i_p0_rules_seats) (if i_p0_rules_seats ≤ z8 then (some (z9, w3, w4, w5)) else (bd1 (f_X0_leastLeader i_p0_rules_seats v_p0_state_spoons w3 w5 z8) (fun (z13 : Int) => (ck (z_r32 z13) (if z13 = (-4 : Int) then (bnd (z_or z9 (z_shl (1 : Int) z8)) (fun (z16 : Int) => (bnd (z8 + (1 : Int)) (fun (z17 : Int) => (again32 z17 z16))))) else (bnd (z8 + (1 : Int)) (fun (z15 : Int) => (again32 z15 z9))))))))))
noncomputable def f_X11_firm (i_p0_rules_seats : Int) (i_p0_rules_stirs : Int) (v_p0_rules_after : (Int → Int)) (v_p0_state_pieces : (Int → Int)) (v_p0_state_friends : (Int → Int)) (v_p0_state_spoons : (Int → Int)) (v_p0_kitchen_places : (Int → Int)) (v_p0_kitchen_holders : (Int → Int)) (v_p0_kitchen_stirred : (Int → Int)) (x1 : Int) : Option (Int × (Int → Int) × (Int → Int) × (Int → Int)) := (bd1 (f_X6_hasStir i_p0_rules_stirs x1) (fun (z1 : Int) => (ck (z_r32 z1) (if z1 = (0 : Int) then (some ((-1 : Int), v_p0_kitchen_places, v_p0_kitchen_holders, v_p0_kitchen_stirred)) else (bd2 (f_X2_serveAllKings i_p0_rules_seats v_p0_state_friends v_p0_kitchen_places v_p0_kitchen_holders) (fun (w3 : (Int → Int)) (w4 : (Int → Int)) => (bd1 (f_X2_stirPot i_p0_rules_seats v_p0_rules_after v_p0_state_pieces v_p0_kitchen_stirred x1) (fun (w5 : (Int → Int)) => (bnd (0 : Int) (fun (z6 : Int) => (bnd (0 : Int) (fun (z7 : Int) => (lq2 (B_X11_firm_32 i_p0_rules_seats w3 w4 w5 v_p0_state_spoons) 1000 z7 z6)))))))))))))
abbrev rm_X11_firm : Room := { frames := 5, cells := 0, slots := 0, locals := 113 }
theorem inX11_firm_X11 : ∀ w ∈ wsX110, w ∈ wsX11_firm := by decide +kernel
theorem mwX11_firm_1 : Cond.fieldLink RX11 10 "LadleKings" "rules" "LLadleKings$Rules;" ∈ wsX11_firm := by decide +kernel
theorem mwX11_firm_2 : Cond.fieldLink RX11 44 "LadleKings" "kitchen" "LLadleKings$Kitchen;" ∈ wsX11_firm := by decide +kernel
theorem inX11_firm_X6 : ∀ w ∈ wsX60, w ∈ wsX11_firm := by decide +kernel
theorem mwX11_firm_4 : Cond.fieldLink RX11 130 "LadleKings$Rules" "seats" "I" ∈ wsX11_firm := by decide +kernel
theorem mwX11_firm_5 : Cond.fieldLink RX11 67 "LadleKings" "coups" "LLadleKings$Coups;" ∈ wsX11_firm := by decide +kernel
set_option maxHeartbeats 8000000 in
set_option maxRecDepth 100000 in
theorem c_X11_firm (l : Launch) (D : va_G) (G : Nat → ClassId) (sz : Nat) (a_p0 : Nat) (a_p0_rules : Nat) (a_p0_state : Nat) (a_p0_tape : Nat) (a_p0_reader : Nat) (a_p0_kitchen : Nat) (a_p0_luck : Nat) (a_p0_plans : Nat) (a_p0_coups : Nat) (a_p0_past : Nat) (a_p0_fairDays : Nat) (a_p0_images : Nat) (a_p0_imageHeld : Nat) (a_p0_sheets : Nat) (a_p0_rules_need : Nat) (a_p0_rules_kind : Nat) (a_p0_rules_first : Nat) (a_p0_rules_second : Nat) (a_p0_rules_after : Nat) (a_p0_state_pieces : Nat) (a_p0_state_friends : Nat) (a_p0_state_spoons : Nat) (a_p0_state_eaten : Nat) (a_p0_state_seen : Nat) (a_p0_kitchen_places : Nat) (a_p0_kitchen_holders : Nat) (a_p0_kitchen_stirred : Nat) (i_p0_latestFault : Int) (i_p0_latestTear : Int) (i_p0_rules_seats : Int) (i_p0_rules_stirs : Int) (v_p0_rules_after : (Int → Int)) (i_p0_state_seenDays : Int) (i_p0_state_bone : Int) (i_p0_state_king : Int) (i_p0_state_days : Int) (v_p0_state_pieces : (Int → Int)) (v_p0_state_friends : (Int → Int)) (v_p0_state_spoons : (Int → Int)) (v_p0_kitchen_places : (Int → Int)) (v_p0_kitchen_holders : (Int → Int)) (v_p0_kitchen_stirred : (Int → Int)) (x1 : Int) (r : Int) (o_v_p0_kitchen_places : (Int → Int)) (o_v_p0_kitchen_holders : (Int → Int)) (o_v_p0_kitchen_stirred : (Int → Int)) (hf : f_X11_firm i_p0_rules_seats i_p0_rules_stirs v_p0_rules_after v_p0_state_pieces v_p0_state_friends v_p0_state_spoons v_p0_kitchen_places v_p0_kitchen_holders v_p0_kitchen_stirred x1 = some (r, o_v_p0_kitchen_places, o_v_p0_kitchen_holders, o_v_p0_kitchen_stirred)) : Met l yX11_firm wsX11_firm rm_X11_firm (pcG D G [.ref a_p0, .int (Int32.ofInt x1)] sz [(a_p0, .inr (11, [.ref a_p0_rules, .ref a_p0_state, .ref a_p0_tape, .ref a_p0_reader, .ref a_p0_kitchen, .ref a_p0_luck, .ref a_p0_plans, .ref a_p0_coups, .ref a_p0_past, .ref a_p0_fairDays, .ref a_p0_images, .ref a_p0_imageHeld, .ref a_p0_sheets, .int (Int32.ofInt i_p0_latestFault), .int (Int32.ofInt i_p0_latestTear)])), (a_p0_rules, .inr (6, [.int (Int32.ofInt i_p0_rules_seats), .int (Int32.ofInt i_p0_rules_stirs), .ref a_p0_rules_need, .ref a_p0_rules_kind, .ref a_p0_rules_first, .ref a_p0_rules_second, .ref a_p0_rules_after])), (a_p0_rules_after, .inl (G 1, 35, .inl (zA v_p0_rules_after))), (a_p0_state, .inr (8, [.ref a_p0_state_pieces, .ref a_p0_state_friends, .ref a_p0_state_spoons, .ref a_p0_state_eaten, .ref a_p0_state_seen, .int (Int32.ofInt i_p0_state_seenDays), .int (Int32.ofInt i_p0_state_bone), .int (Int32.ofInt i_p0_state_king), .int (Int32.ofInt i_p0_state_days)])), (a_p0_state_pieces, .inl (G 1, 7, .inl (zA v_p0_state_pieces))), (a_p0_state_friends, .inl (G 1, 7, .inl (zA v_p0_state_friends))), (a_p0_state_spoons, .inl (G 1, 7, .inl (zA v_p0_state_spoons))), (a_p0_kitchen, .inr (2, [.ref a_p0_rules, .ref a_p0_state, .ref a_p0_kitchen_places, .ref a_p0_kitchen_holders, .ref a_p0_kitchen_stirred])), (a_p0_kitchen_places, .inl (G 1, 49, .inl (zA v_p0_kitchen_places))), (a_p0_kitchen_holders, .inl (G 1, 49, .inl (zA v_p0_kitchen_holders))), (a_p0_kitchen_stirred, .inl (G 1, 7, .inl (zA v_p0_kitchen_stirred))), (a_p0_coups, .inr (0, [.ref a_p0_kitchen]))]) (qcI D G (Int32.ofInt r) [(a_p0, .inr (11, [.ref a_p0_rules, .ref a_p0_state, .ref a_p0_tape, .ref a_p0_reader, .ref a_p0_kitchen, .ref a_p0_luck, .ref a_p0_plans, .ref a_p0_coups, .ref a_p0_past, .ref a_p0_fairDays, .ref a_p0_images, .ref a_p0_imageHeld, .ref a_p0_sheets, .int (Int32.ofInt i_p0_latestFault), .int (Int32.ofInt i_p0_latestTear)])), (a_p0_rules, .inr (6, [.int (Int32.ofInt i_p0_rules_seats), .int (Int32.ofInt i_p0_rules_stirs), .ref a_p0_rules_need, .ref a_p0_rules_kind, .ref a_p0_rules_first, .ref a_p0_rules_second, .ref a_p0_rules_after])), (a_p0_rules_after, .inl (G 1, 35, .inl (zA v_p0_rules_after))), (a_p0_state, .inr (8, [.ref a_p0_state_pieces, .ref a_p0_state_friends, .ref a_p0_state_spoons, .ref a_p0_state_eaten, .ref a_p0_state_seen, .int (Int32.ofInt i_p0_state_seenDays), .int (Int32.ofInt i_p0_state_bone), .int (Int32.ofInt i_p0_state_king), .int (Int32.ofInt i_p0_state_days)])), (a_p0_state_pieces, .inl (G 1, 7, .inl (zA v_p0_state_pieces))), (a_p0_state_friends, .inl (G 1, 7, .inl (zA v_p0_state_friends))), (a_p0_state_spoons, .inl (G 1, 7, .inl (zA v_p0_state_spoons))), (a_p0_kitchen, .inr (2, [.ref a_p0_rules, .ref a_p0_state, .ref a_p0_kitchen_places, .ref a_p0_kitchen_holders, .ref a_p0_kitchen_stirred])), (a_p0_kitchen_places, .inl (G 1, 49, .inl (zA o_v_p0_kitchen_places))), (a_p0_kitchen_holders, .inl (G 1, 49, .inl (zA o_v_p0_kitchen_holders))), (a_p0_kitchen_stirred, .inl (G 1, 7, .inl (zA o_v_p0_kitchen_stirred))), (a_p0_coups, .inr (0, [.ref a_p0_kitchen]))] (va_A [(a_p0, .inr (11, [.ref a_p0_rules, .ref a_p0_state, .ref a_p0_tape, .ref a_p0_reader, .ref a_p0_kitchen, .ref a_p0_luck, .ref a_p0_plans, .ref a_p0_coups, .ref a_p0_past, .ref a_p0_fairDays, .ref a_p0_images, .ref a_p0_imageHeld, .ref a_p0_sheets, .int (Int32.ofInt i_p0_latestFault), .int (Int32.ofInt i_p0_latestTear)])), (a_p0_rules, .inr (6, [.int (Int32.ofInt i_p0_rules_seats), .int (Int32.ofInt i_p0_rules_stirs), .ref a_p0_rules_need, .ref a_p0_rules_kind, .ref a_p0_rules_first, .ref a_p0_rules_second, .ref a_p0_rules_after])), (a_p0_rules_after, .inl (G 1, 35, .inl (zA v_p0_rules_after))), (a_p0_state, .inr (8, [.ref a_p0_state_pieces, .ref a_p0_state_friends, .ref a_p0_state_spoons, .ref a_p0_state_eaten, .ref a_p0_state_seen, .int (Int32.ofInt i_p0_state_seenDays), .int (Int32.ofInt i_p0_state_bone), .int (Int32.ofInt i_p0_state_king), .int (Int32.ofInt i_p0_state_days)])), (a_p0_state_pieces, .inl (G 1, 7, .inl (zA v_p0_state_pieces))), (a_p0_state_friends, .inl (G 1, 7, .inl (zA v_p0_state_friends))), (a_p0_state_spoons, .inl (G 1, 7, .inl (zA v_p0_state_spoons))), (a_p0_kitchen, .inr (2, [.ref a_p0_rules, .ref a_p0_state, .ref a_p0_kitchen_places, .ref a_p0_kitchen_holders, .ref a_p0_kitchen_stirred])), (a_p0_kitchen_places, .inl (G 1, 49, .inl (zA v_p0_kitchen_places))), (a_p0_kitchen_holders, .inl (G 1, 49, .inl (zA v_p0_kitchen_holders))), (a_p0_kitchen_stirred, .inl (G 1, 7, .inl (zA v_p0_kitchen_stirred))), (a_p0_coups, .inr (0, [.ref a_p0_kitchen]))] sz)) 0 0 (va_A [(a_p0, .inr (11, [.ref a_p0_rules, .ref a_p0_state, .ref a_p0_tape, .ref a_p0_reader, .ref a_p0_kitchen, .ref a_p0_luck, .ref a_p0_plans, .ref a_p0_coups, .ref a_p0_past, .ref a_p0_fairDays, .ref a_p0_images, .ref a_p0_imageHeld, .ref a_p0_sheets, .int (Int32.ofInt i_p0_latestFault), .int (Int32.ofInt i_p0_latestTear)])), (a_p0_rules, .inr (6, [.int (Int32.ofInt i_p0_rules_seats), .int (Int32.ofInt i_p0_rules_stirs), .ref a_p0_rules_need, .ref a_p0_rules_kind, .ref a_p0_rules_first, .ref a_p0_rules_second, .ref a_p0_rules_after])), (a_p0_rules_after, .inl (G 1, 35, .inl (zA v_p0_rules_after))), (a_p0_state, .inr (8, [.ref a_p0_state_pieces, .ref a_p0_state_friends, .ref a_p0_state_spoons, .ref a_p0_state_eaten, .ref a_p0_state_seen, .int (Int32.ofInt i_p0_state_seenDays), .int (Int32.ofInt i_p0_state_bone), .int (Int32.ofInt i_p0_state_king), .int (Int32.ofInt i_p0_state_days)])), (a_p0_state_pieces, .inl (G 1, 7, .inl (zA v_p0_state_pieces))), (a_p0_state_friends, .inl (G 1, 7, .inl (zA v_p0_state_friends))), (a_p0_state_spoons, .inl (G 1, 7, .inl (zA v_p0_state_spoons))), (a_p0_kitchen, .inr (2, [.ref a_p0_rules, .ref a_p0_state, .ref a_p0_kitchen_places, .ref a_p0_kitchen_holders, .ref a_p0_kitchen_stirred])), (a_p0_kitchen_places, .inl (G 1, 49, .inl (zA v_p0_kitchen_places))), (a_p0_kitchen_holders, .inl (G 1, 49, .inl (zA v_p0_kitchen_holders))), (a_p0_kitchen_stirred, .inl (G 1, 7, .inl (zA v_p0_kitchen_stirred))), (a_p0_coups, .inr (0, [.ref a_p0_kitchen]))] sz) := by
  refine Met.ofW (cc := cX11_firm) (maxL := 4) (ret := (some .int)) (by decide) rfl ?_
  intro p e s m args below meth c s₁ B hml hv
  obtain ⟨rfl, hsz, hP, hK, hD0⟩ := hv
  have hx := B.exec
  have hb := B.bytes
  have hr := B.returns
  have hts := atoms_spec (ws := wsX11_firm) B.pre
  have hown : s.vm.findClass RX11 = some m.cls := findClass_of_methodNamed B.named
  have hlocks := B.notSynchronized
  subst hsz
  have hD := hD0.self (sz := s.heap.size)
  generalize hAe : va_A [(a_p0, .inr (11, [.ref a_p0_rules, .ref a_p0_state, .ref a_p0_tape, .ref a_p0_reader, .ref a_p0_kitchen, .ref a_p0_luck, .ref a_p0_plans, .ref a_p0_coups, .ref a_p0_past, .ref a_p0_fairDays, .ref a_p0_images, .ref a_p0_imageHeld, .ref a_p0_sheets, .int (Int32.ofInt i_p0_latestFault), .int (Int32.ofInt i_p0_latestTear)])), (a_p0_rules, .inr (6, [.int (Int32.ofInt i_p0_rules_seats), .int (Int32.ofInt i_p0_rules_stirs), .ref a_p0_rules_need, .ref a_p0_rules_kind, .ref a_p0_rules_first, .ref a_p0_rules_second, .ref a_p0_rules_after])), (a_p0_rules_after, .inl (G 1, 35, .inl (zA v_p0_rules_after))), (a_p0_state, .inr (8, [.ref a_p0_state_pieces, .ref a_p0_state_friends, .ref a_p0_state_spoons, .ref a_p0_state_eaten, .ref a_p0_state_seen, .int (Int32.ofInt i_p0_state_seenDays), .int (Int32.ofInt i_p0_state_bone), .int (Int32.ofInt i_p0_state_king), .int (Int32.ofInt i_p0_state_days)])), (a_p0_state_pieces, .inl (G 1, 7, .inl (zA v_p0_state_pieces))), (a_p0_state_friends, .inl (G 1, 7, .inl (zA v_p0_state_friends))), (a_p0_state_spoons, .inl (G 1, 7, .inl (zA v_p0_state_spoons))), (a_p0_kitchen, .inr (2, [.ref a_p0_rules, .ref a_p0_state, .ref a_p0_kitchen_places, .ref a_p0_kitchen_holders, .ref a_p0_kitchen_stirred])), (a_p0_kitchen_places, .inl (G 1, 49, .inl (zA v_p0_kitchen_places))), (a_p0_kitchen_holders, .inl (G 1, 49, .inl (zA v_p0_kitchen_holders))), (a_p0_kitchen_stirred, .inl (G 1, 7, .inl (zA v_p0_kitchen_stirred))), (a_p0_coups, .inr (0, [.ref a_p0_kitchen]))] s.heap.size = A at hD ⊢
  have hA : ∀ q : Nat, s.heap.size ≤ q → A q := fun q h => by rw [← hAe]; exact Or.inr h
  clear hAe hD0
  have hS : va_S A s.heap s.heap [] := va_S.rf
  have hl := lv_entry ([.ref a_p0, .int (Int32.ofInt x1)]) (n := 4) (Nat.le_of_ble_eq_true rfl)
  rw [lg_entry_eq]
  generalize (lg_sl ([.ref a_p0, .int (Int32.ofInt x1)]) ++ List.replicate (4 - (lg_sl ([.ref a_p0, .int (Int32.ofInt x1)])).length) Slot.unset).toArray = ls at hl ⊢
  have hl : lv_has ls 4 [(0, .ref a_p0), (1, .int (Int32.ofInt x1))] := hl
  refine W_nameQ (fun Q hQ => ?_)
  obtain ⟨H, hH⟩ : ∃ H, H = s.heap := ⟨_, rfl⟩
  replace hS : va_S A s.heap H [] := by rw [hH]; exact hS
  replace hP : va_P D vwCl [(a_p0, .inr (11, [.ref a_p0_rules, .ref a_p0_state, .ref a_p0_tape, .ref a_p0_reader, .ref a_p0_kitchen, .ref a_p0_luck, .ref a_p0_plans, .ref a_p0_coups, .ref a_p0_past, .ref a_p0_fairDays, .ref a_p0_images, .ref a_p0_imageHeld, .ref a_p0_sheets, .int (Int32.ofInt i_p0_latestFault), .int (Int32.ofInt i_p0_latestTear)])), (a_p0_rules, .inr (6, [.int (Int32.ofInt i_p0_rules_seats), .int (Int32.ofInt i_p0_rules_stirs), .ref a_p0_rules_need, .ref a_p0_rules_kind, .ref a_p0_rules_first, .ref a_p0_rules_second, .ref a_p0_rules_after])), (a_p0_rules_after, .inl (G 1, 35, .inl (zA v_p0_rules_after))), (a_p0_state, .inr (8, [.ref a_p0_state_pieces, .ref a_p0_state_friends, .ref a_p0_state_spoons, .ref a_p0_state_eaten, .ref a_p0_state_seen, .int (Int32.ofInt i_p0_state_seenDays), .int (Int32.ofInt i_p0_state_bone), .int (Int32.ofInt i_p0_state_king), .int (Int32.ofInt i_p0_state_days)])), (a_p0_state_pieces, .inl (G 1, 7, .inl (zA v_p0_state_pieces))), (a_p0_state_friends, .inl (G 1, 7, .inl (zA v_p0_state_friends))), (a_p0_state_spoons, .inl (G 1, 7, .inl (zA v_p0_state_spoons))), (a_p0_kitchen, .inr (2, [.ref a_p0_rules, .ref a_p0_state, .ref a_p0_kitchen_places, .ref a_p0_kitchen_holders, .ref a_p0_kitchen_stirred])), (a_p0_kitchen_places, .inl (G 1, 49, .inl (zA v_p0_kitchen_places))), (a_p0_kitchen_holders, .inl (G 1, 49, .inl (zA v_p0_kitchen_holders))), (a_p0_kitchen_stirred, .inl (G 1, 7, .inl (zA v_p0_kitchen_stirred))), (a_p0_coups, .inr (0, [.ref a_p0_kitchen]))] H := by rw [hH]; exact hP
  rw [← hH]
  clear hH
  unfold f_X11_firm at hf
  refine lv_aload_n hx hb dX11_firm_0 rfl (lv_at hl 0 rfl) ?_
  refine va_get (D := D) (ci := 11) (v := .ref a_p0_rules) (C := RX11) (T := TX11) (N := 15) hx hb hts inX11_firm_X11 hown hK hP 0 rfl rfl 0 (by decide) (hts _ mwX11_firm_1) (fun _ h9 => h9) rfl dX11_firm_1 ?_
  refine lv_iload_n hx hb dX11_firm_4 rfl (lv_at hl 1 rfl) ?_
  have hq := bd1_s hf
  clear hf
  obtain ⟨z1, hcall, hf⟩ := hq
  refine gcI (ws' := [(a_p0, .inr (11, [.ref a_p0_rules, .ref a_p0_state, .ref a_p0_tape, .ref a_p0_reader, .ref a_p0_kitchen, .ref a_p0_luck, .ref a_p0_plans, .ref a_p0_coups, .ref a_p0_past, .ref a_p0_fairDays, .ref a_p0_images, .ref a_p0_imageHeld, .ref a_p0_sheets, .int (Int32.ofInt i_p0_latestFault), .int (Int32.ofInt i_p0_latestTear)])), (a_p0_rules, .inr (6, [.int (Int32.ofInt i_p0_rules_seats), .int (Int32.ofInt i_p0_rules_stirs), .ref a_p0_rules_need, .ref a_p0_rules_kind, .ref a_p0_rules_first, .ref a_p0_rules_second, .ref a_p0_rules_after])), (a_p0_rules_after, .inl (G 1, 35, .inl (zA v_p0_rules_after))), (a_p0_state, .inr (8, [.ref a_p0_state_pieces, .ref a_p0_state_friends, .ref a_p0_state_spoons, .ref a_p0_state_eaten, .ref a_p0_state_seen, .int (Int32.ofInt i_p0_state_seenDays), .int (Int32.ofInt i_p0_state_bone), .int (Int32.ofInt i_p0_state_king), .int (Int32.ofInt i_p0_state_days)])), (a_p0_state_pieces, .inl (G 1, 7, .inl (zA v_p0_state_pieces))), (a_p0_state_friends, .inl (G 1, 7, .inl (zA v_p0_state_friends))), (a_p0_state_spoons, .inl (G 1, 7, .inl (zA v_p0_state_spoons))), (a_p0_kitchen, .inr (2, [.ref a_p0_rules, .ref a_p0_state, .ref a_p0_kitchen_places, .ref a_p0_kitchen_holders, .ref a_p0_kitchen_stirred])), (a_p0_kitchen_places, .inl (G 1, 49, .inl (zA v_p0_kitchen_places))), (a_p0_kitchen_holders, .inl (G 1, 49, .inl (zA v_p0_kitchen_holders))), (a_p0_kitchen_stirred, .inl (G 1, 7, .inl (zA v_p0_kitchen_stirred))), (a_p0_coups, .inr (0, [.ref a_p0_kitchen]))]) (va_runV (As := [.int (Int32.ofInt x1)]) (rest := []) ⟨hx, hb, hml, hown, hts⟩ (c_X6_hasStir (l := l) (D := D) (G := G) (sz := H.size) (a_p0 := a_p0_rules) (a_p0_need := a_p0_rules_need) (a_p0_kind := a_p0_rules_kind) (a_p0_first := a_p0_rules_first) (a_p0_second := a_p0_rules_second) (a_p0_after := a_p0_rules_after) (i_p0_seats := i_p0_rules_seats) (i_p0_stirs := i_p0_rules_stirs) (x1 := x1) (r := z1) (hf := hcall)) (cwV 1 hts gX11_firm_X6_hasStir rfl rfl rfl (by decide +kernel) ⟨Nat.le_of_ble_eq_true rfl, Nat.le_of_ble_eq_true rfl⟩) (preG_V (ci := 6) (hP.sub [1] rfl) (hD.sub [1] rfl rfl) hK rfl rfl) rfl rfl hl.1 rfl (lv_room (Nat.le_of_ble_eq_true rfl)) dX11_firm_5 ⟨Nat.le_of_ble_eq_true rfl, Nat.le_of_ble_eq_true rfl⟩) hP hD hS hA [1] [0, 2, 3, 4, 5, 6, 7, 8, 9, 10, 11] [0, 11, 1, 2, 3, 4, 5, 6, 7, 8, 9, 10] rfl rfl rfl (by decide) rfl rfl rfl (fun H locs hP hD hS => ?_)
  clear hcall
  have hr1 := ck_c hf
  replace hf := ck_r hf
  refine lv_if_ne (tgt := 13) hx hb dX11_firm_8 (by decide) (fun cc => ?_) (fun cc => ?_)
  ·
    replace hf := ite_f (fun h9 => cc ((z_eq0 hr1).mpr h9)) hf
    clear cc
    refine lv_aload_n hx hb dX11_firm_13 rfl (lv_at hl 0 rfl) ?_
    refine va_get (D := D) (ci := 11) (v := .ref a_p0_kitchen) (C := RX11) (T := TX11) (N := 15) hx hb hts inX11_firm_X11 hown hK hP 0 rfl rfl 4 (by decide) (hts _ mwX11_firm_2) (fun _ h9 => h9) rfl dX11_firm_14 ?_
    have hq := bd2_s hf
    clear hf
    obtain ⟨w3, w4, hcall, hf⟩ := hq
    refine gcV (ws' := [(a_p0, .inr (11, [.ref a_p0_rules, .ref a_p0_state, .ref a_p0_tape, .ref a_p0_reader, .ref a_p0_kitchen, .ref a_p0_luck, .ref a_p0_plans, .ref a_p0_coups, .ref a_p0_past, .ref a_p0_fairDays, .ref a_p0_images, .ref a_p0_imageHeld, .ref a_p0_sheets, .int (Int32.ofInt i_p0_latestFault), .int (Int32.ofInt i_p0_latestTear)])), (a_p0_rules, .inr (6, [.int (Int32.ofInt i_p0_rules_seats), .int (Int32.ofInt i_p0_rules_stirs), .ref a_p0_rules_need, .ref a_p0_rules_kind, .ref a_p0_rules_first, .ref a_p0_rules_second, .ref a_p0_rules_after])), (a_p0_rules_after, .inl (G 1, 35, .inl (zA v_p0_rules_after))), (a_p0_state, .inr (8, [.ref a_p0_state_pieces, .ref a_p0_state_friends, .ref a_p0_state_spoons, .ref a_p0_state_eaten, .ref a_p0_state_seen, .int (Int32.ofInt i_p0_state_seenDays), .int (Int32.ofInt i_p0_state_bone), .int (Int32.ofInt i_p0_state_king), .int (Int32.ofInt i_p0_state_days)])), (a_p0_state_pieces, .inl (G 1, 7, .inl (zA v_p0_state_pieces))), (a_p0_state_friends, .inl (G 1, 7, .inl (zA v_p0_state_friends))), (a_p0_state_spoons, .inl (G 1, 7, .inl (zA v_p0_state_spoons))), (a_p0_kitchen, .inr (2, [.ref a_p0_rules, .ref a_p0_state, .ref a_p0_kitchen_places, .ref a_p0_kitchen_holders, .ref a_p0_kitchen_stirred])), (a_p0_kitchen_places, .inl (G 1, 49, .inl (zA w3))), (a_p0_kitchen_holders, .inl (G 1, 49, .inl (zA w4))), (a_p0_kitchen_stirred, .inl (G 1, 7, .inl (zA v_p0_kitchen_stirred))), (a_p0_coups, .inr (0, [.ref a_p0_kitchen]))]) (va_runV (As := []) (rest := []) ⟨hx, hb, hml, hown, hts⟩ (c_X2_serveAllKings (l := l) (D := D) (G := G) (sz := H.size) (a_p0 := a_p0_kitchen) (a_p0_rules := a_p0_rules) (a_p0_state := a_p0_state) (a_p0_places := a_p0_kitchen_places) (a_p0_holders := a_p0_kitchen_holders) (a_p0_stirred := a_p0_kitchen_stirred) (a_p0_rules_need := a_p0_rules_need) (a_p0_rules_kind := a_p0_rules_kind) (a_p0_rules_first := a_p0_rules_first) (a_p0_rules_second := a_p0_rules_second) (a_p0_rules_after := a_p0_rules_after) (a_p0_state_pieces := a_p0_state_pieces) (a_p0_state_friends := a_p0_state_friends) (a_p0_state_spoons := a_p0_state_spoons) (a_p0_state_eaten := a_p0_state_eaten) (a_p0_state_seen := a_p0_state_seen) (i_p0_rules_seats := i_p0_rules_seats) (i_p0_rules_stirs := i_p0_rules_stirs) (i_p0_state_seenDays := i_p0_state_seenDays) (i_p0_state_bone := i_p0_state_bone) (i_p0_state_king := i_p0_state_king) (i_p0_state_days := i_p0_state_days) (v_p0_state_friends := v_p0_state_friends) (v_p0_places := v_p0_kitchen_places) (v_p0_holders := v_p0_kitchen_holders) (o_v_p0_places := w3) (o_v_p0_holders := w4) (hf := hcall)) (cwV 0 hts gX11_firm_X2_serveAllKings rfl rfl rfl (by decide +kernel) ⟨Nat.le_of_ble_eq_true rfl, Nat.le_of_ble_eq_true rfl⟩) (preG_V (ci := 2) (hP.sub [7, 1, 3, 5, 8, 9] rfl) (hD.sub [7, 1, 3, 5, 8, 9] rfl rfl) hK rfl rfl) rfl rfl hl.1 rfl (lv_room (Nat.le_of_ble_eq_true rfl)) dX11_firm_17 ⟨Nat.le_of_ble_eq_true rfl, Nat.le_of_ble_eq_true rfl⟩) hP hD hS hA [7, 1, 3, 5, 8, 9] [0, 2, 4, 6, 10, 11] [0, 7, 1, 8, 2, 9, 3, 6, 10, 11, 4, 5] rfl rfl rfl (by decide) rfl rfl rfl (fun H locs hP hD hS => ?_)
    clear hcall
    refine lv_aload_n hx hb dX11_firm_20 rfl (lv_at hl 0 rfl) ?_
    refine va_get (D := D) (ci := 11) (v := .ref a_p0_kitchen) (C := RX11) (T := TX11) (N := 15) hx hb hts inX11_firm_X11 hown hK hP 0 rfl rfl 4 (by decide) (hts _ mwX11_firm_2) (fun _ h9 => h9) rfl dX11_firm_21 ?_
    refine lv_iload_n hx hb dX11_firm_24 rfl (lv_at hl 1 rfl) ?_
    have hq := bd1_s hf
    clear hf
    obtain ⟨w5, hcall, hf⟩ := hq
    refine gcV (ws' := [(a_p0, .inr (11, [.ref a_p0_rules, .ref a_p0_state, .ref a_p0_tape, .ref a_p0_reader, .ref a_p0_kitchen, .ref a_p0_luck, .ref a_p0_plans, .ref a_p0_coups, .ref a_p0_past, .ref a_p0_fairDays, .ref a_p0_images, .ref a_p0_imageHeld, .ref a_p0_sheets, .int (Int32.ofInt i_p0_latestFault), .int (Int32.ofInt i_p0_latestTear)])), (a_p0_rules, .inr (6, [.int (Int32.ofInt i_p0_rules_seats), .int (Int32.ofInt i_p0_rules_stirs), .ref a_p0_rules_need, .ref a_p0_rules_kind, .ref a_p0_rules_first, .ref a_p0_rules_second, .ref a_p0_rules_after])), (a_p0_rules_after, .inl (G 1, 35, .inl (zA v_p0_rules_after))), (a_p0_state, .inr (8, [.ref a_p0_state_pieces, .ref a_p0_state_friends, .ref a_p0_state_spoons, .ref a_p0_state_eaten, .ref a_p0_state_seen, .int (Int32.ofInt i_p0_state_seenDays), .int (Int32.ofInt i_p0_state_bone), .int (Int32.ofInt i_p0_state_king), .int (Int32.ofInt i_p0_state_days)])), (a_p0_state_pieces, .inl (G 1, 7, .inl (zA v_p0_state_pieces))), (a_p0_state_friends, .inl (G 1, 7, .inl (zA v_p0_state_friends))), (a_p0_state_spoons, .inl (G 1, 7, .inl (zA v_p0_state_spoons))), (a_p0_kitchen, .inr (2, [.ref a_p0_rules, .ref a_p0_state, .ref a_p0_kitchen_places, .ref a_p0_kitchen_holders, .ref a_p0_kitchen_stirred])), (a_p0_kitchen_places, .inl (G 1, 49, .inl (zA w3))), (a_p0_kitchen_holders, .inl (G 1, 49, .inl (zA w4))), (a_p0_kitchen_stirred, .inl (G 1, 7, .inl (zA w5))), (a_p0_coups, .inr (0, [.ref a_p0_kitchen]))]) (va_runV (As := [.int (Int32.ofInt x1)]) (rest := []) ⟨hx, hb, hml, hown, hts⟩ (c_X2_stirPot (l := l) (D := D) (G := G) (sz := H.size) (a_p0 := a_p0_kitchen) (a_p0_rules := a_p0_rules) (a_p0_state := a_p0_state) (a_p0_places := a_p0_kitchen_places) (a_p0_holders := a_p0_kitchen_holders) (a_p0_stirred := a_p0_kitchen_stirred) (a_p0_rules_need := a_p0_rules_need) (a_p0_rules_kind := a_p0_rules_kind) (a_p0_rules_first := a_p0_rules_first) (a_p0_rules_second := a_p0_rules_second) (a_p0_rules_after := a_p0_rules_after) (a_p0_state_pieces := a_p0_state_pieces) (a_p0_state_friends := a_p0_state_friends) (a_p0_state_spoons := a_p0_state_spoons) (a_p0_state_eaten := a_p0_state_eaten) (a_p0_state_seen := a_p0_state_seen) (i_p0_rules_seats := i_p0_rules_seats) (i_p0_rules_stirs := i_p0_rules_stirs) (v_p0_rules_after := v_p0_rules_after) (i_p0_state_seenDays := i_p0_state_seenDays) (i_p0_state_bone := i_p0_state_bone) (i_p0_state_king := i_p0_state_king) (i_p0_state_days := i_p0_state_days) (v_p0_state_pieces := v_p0_state_pieces) (v_p0_stirred := v_p0_kitchen_stirred) (x1 := x1) (o_v_p0_stirred := w5) (hf := hcall)) (cwV 1 hts gX11_firm_X2_stirPot rfl rfl rfl (by decide +kernel) ⟨Nat.le_of_ble_eq_true rfl, Nat.le_of_ble_eq_true rfl⟩) (preG_V (ci := 2) (hP.sub [7, 1, 2, 3, 4, 10] rfl) (hD.sub [7, 1, 2, 3, 4, 10] rfl rfl) hK rfl rfl) rfl rfl hl.1 rfl (lv_room (Nat.le_of_ble_eq_true rfl)) dX11_firm_25 ⟨Nat.le_of_ble_eq_true rfl, Nat.le_of_ble_eq_true rfl⟩) hP hD hS hA [7, 1, 2, 3, 4, 10] [0, 5, 6, 8, 9, 11] [0, 7, 8, 9, 10, 1, 2, 6, 3, 4, 11, 5] rfl rfl rfl (by decide) rfl rfl rfl (fun H locs hP hD hS => ?_)
    clear hcall
    refine lv_iconst (v := Int32.ofInt (0 : Int)) hx hb dX11_firm_28 (by decide) ?_
    refine z_topi (fun z6 ez => ?_)
    replace hf := bnd_s hf ez
    clear ez
    refine lv_istore_n (lv' := [(2, .int (Int32.ofInt z6)), (0, .ref a_p0), (1, .int (Int32.ofInt x1))]) hx hb dX11_firm_29 rfl hl (by decide) rfl (fun ls hl => ?_)
    refine lv_iconst (v := Int32.ofInt (0 : Int)) hx hb dX11_firm_30 (by decide) ?_
    refine z_topi (fun z7 ez => ?_)
    replace hf := bnd_s hf ez
    clear ez
    refine lv_istore_n (lv' := [(3, .int (Int32.ofInt z7)), (2, .int (Int32.ofInt z6)), (0, .ref a_p0), (1, .int (Int32.ofInt x1))]) hx hb dX11_firm_31 rfl hl (by decide) rfl (fun ls hl => ?_)
    have hq := lq2_i hf
    clear hf
    obtain ⟨B10, eB10, NB10, hf⟩ := hq
    have hB10 : ∀ (n : Nat) (z8 : Int) (z9 : Int) (ls : Array Slot) (H : Heap) (locs : List Loc), lv_has ls 4 [(3, .int (Int32.ofInt z8)), (2, .int (Int32.ofInt z9)), (0, .ref a_p0)] → va_P D vwCl [(a_p0, .inr (11, [.ref a_p0_rules, .ref a_p0_state, .ref a_p0_tape, .ref a_p0_reader, .ref a_p0_kitchen, .ref a_p0_luck, .ref a_p0_plans, .ref a_p0_coups, .ref a_p0_past, .ref a_p0_fairDays, .ref a_p0_images, .ref a_p0_imageHeld, .ref a_p0_sheets, .int (Int32.ofInt i_p0_latestFault), .int (Int32.ofInt i_p0_latestTear)])), (a_p0_rules, .inr (6, [.int (Int32.ofInt i_p0_rules_seats), .int (Int32.ofInt i_p0_rules_stirs), .ref a_p0_rules_need, .ref a_p0_rules_kind, .ref a_p0_rules_first, .ref a_p0_rules_second, .ref a_p0_rules_after])), (a_p0_rules_after, .inl (G 1, 35, .inl (zA v_p0_rules_after))), (a_p0_state, .inr (8, [.ref a_p0_state_pieces, .ref a_p0_state_friends, .ref a_p0_state_spoons, .ref a_p0_state_eaten, .ref a_p0_state_seen, .int (Int32.ofInt i_p0_state_seenDays), .int (Int32.ofInt i_p0_state_bone), .int (Int32.ofInt i_p0_state_king), .int (Int32.ofInt i_p0_state_days)])), (a_p0_state_pieces, .inl (G 1, 7, .inl (zA v_p0_state_pieces))), (a_p0_state_friends, .inl (G 1, 7, .inl (zA v_p0_state_friends))), (a_p0_state_spoons, .inl (G 1, 7, .inl (zA v_p0_state_spoons))), (a_p0_kitchen, .inr (2, [.ref a_p0_rules, .ref a_p0_state, .ref a_p0_kitchen_places, .ref a_p0_kitchen_holders, .ref a_p0_kitchen_stirred])), (a_p0_kitchen_places, .inl (G 1, 49, .inl (zA w3))), (a_p0_kitchen_holders, .inl (G 1, 49, .inl (zA w4))), (a_p0_kitchen_stirred, .inl (G 1, 7, .inl (zA w5))), (a_p0_coups, .inr (0, [.ref a_p0_kitchen]))] H → va_D A [(a_p0, .inr (11, [.ref a_p0_rules, .ref a_p0_state, .ref a_p0_tape, .ref a_p0_reader, .ref a_p0_kitchen, .ref a_p0_luck, .ref a_p0_plans, .ref a_p0_coups, .ref a_p0_past, .ref a_p0_fairDays, .ref a_p0_images, .ref a_p0_imageHeld, .ref a_p0_sheets, .int (Int32.ofInt i_p0_latestFault), .int (Int32.ofInt i_p0_latestTear)])), (a_p0_rules, .inr (6, [.int (Int32.ofInt i_p0_rules_seats), .int (Int32.ofInt i_p0_rules_stirs), .ref a_p0_rules_need, .ref a_p0_rules_kind, .ref a_p0_rules_first, .ref a_p0_rules_second, .ref a_p0_rules_after])), (a_p0_rules_after, .inl (G 1, 35, .inl (zA v_p0_rules_after))), (a_p0_state, .inr (8, [.ref a_p0_state_pieces, .ref a_p0_state_friends, .ref a_p0_state_spoons, .ref a_p0_state_eaten, .ref a_p0_state_seen, .int (Int32.ofInt i_p0_state_seenDays), .int (Int32.ofInt i_p0_state_bone), .int (Int32.ofInt i_p0_state_king), .int (Int32.ofInt i_p0_state_days)])), (a_p0_state_pieces, .inl (G 1, 7, .inl (zA v_p0_state_pieces))), (a_p0_state_friends, .inl (G 1, 7, .inl (zA v_p0_state_friends))), (a_p0_state_spoons, .inl (G 1, 7, .inl (zA v_p0_state_spoons))), (a_p0_kitchen, .inr (2, [.ref a_p0_rules, .ref a_p0_state, .ref a_p0_kitchen_places, .ref a_p0_kitchen_holders, .ref a_p0_kitchen_stirred])), (a_p0_kitchen_places, .inl (G 1, 49, .inl (zA w3))), (a_p0_kitchen_holders, .inl (G 1, 49, .inl (zA w4))), (a_p0_kitchen_stirred, .inl (G 1, 7, .inl (zA w5))), (a_p0_coups, .inr (0, [.ref a_p0_kitchen]))] → va_S A s.heap H locs → lq2 B10 n z8 z9 = some (r, o_v_p0_kitchen_places, o_v_p0_kitchen_holders, o_v_p0_kitchen_stirred) → W p l e rm_X11_firm s m ([.ref a_p0, .int (Int32.ofInt x1)] : List Value).toArray below meth c H locs 0 0 Q (F0 m 32 ls []) := by
      clear hf hl hP hD hS
      intro n
      induction n with
      | zero =>
        intro z8 z9 ls H locs hl hP hD hS hf
        exact (lq2_0 hf).elim
      | succ n ih32 =>
        intro z8 z9 ls H locs hl hP hD hS hf
        replace hf := lq2_s eB10 hf
        unfold B_X11_firm_32 at hf
        refine lv_iload_n hx hb dX11_firm_32 rfl (lv_at hl 0 rfl) ?_
        refine lv_aload_n hx hb dX11_firm_33 rfl (lv_at hl 2 rfl) ?_
        refine va_get (D := D) (ci := 11) (v := .ref a_p0_rules) (C := RX11) (T := TX11) (N := 15) hx hb hts inX11_firm_X11 hown hK hP 0 rfl rfl 0 (by decide) (hts _ mwX11_firm_1) (fun _ h9 => h9) rfl dX11_firm_34 ?_
        refine va_get (D := D) (ci := 6) (v := .int (Int32.ofInt i_p0_rules_seats)) (C := RX6) (T := TX6) (N := 7) hx hb hts inX11_firm_X6 hown hK hP 1 rfl rfl 0 (by decide) (hts _ mwX11_firm_4) (fun _ h9 => h9) rfl dX11_firm_37 ?_
        have hr10 := ck_c hf
        replace hf := ck_r hf
        have hr11 := ck_c hf
        replace hf := ck_r hf
        refine lv_icmp_ge (tgt := 68) hx hb dX11_firm_40 (by decide) (fun cc => ?_) (fun cc => ?_)
        ·
          replace hf := ite_t ((z_le hr11 hr10).mp cc) hf
          clear cc
          refine lv_iload_n hx hb dX11_firm_68 rfl (lv_at hl 1 rfl) ?_
          obtain ⟨rfl, rfl, rfl, rfl⟩ := ou4 hf
          rw [hQ]
          exact W.iret hx hb hr (fun t ht hW => ⟨⟨_, (), rfl, rfl, by rw [ht]; exact hP, va_K.moved hW.alike hK, hD⟩, hS.F ht⟩) hS.2.2 dX11_firm_69
        ·
          replace hf := ite_f (fun h9 => cc ((z_le hr11 hr10).mpr h9)) hf
          clear cc
          refine lv_aload_n hx hb dX11_firm_43 rfl (lv_at hl 2 rfl) ?_
          refine va_get (D := D) (ci := 11) (v := .ref a_p0_coups) (C := RX11) (T := TX11) (N := 15) hx hb hts inX11_firm_X11 hown hK hP 0 rfl rfl 7 (by decide) (hts _ mwX11_firm_5) (fun _ h9 => h9) rfl dX11_firm_44 ?_
          refine lv_iload_n hx hb dX11_firm_47 rfl (lv_at hl 0 rfl) ?_
          have hq := bd1_s hf
          clear hf
          obtain ⟨z13, hcall, hf⟩ := hq
          refine gcI (ws' := [(a_p0, .inr (11, [.ref a_p0_rules, .ref a_p0_state, .ref a_p0_tape, .ref a_p0_reader, .ref a_p0_kitchen, .ref a_p0_luck, .ref a_p0_plans, .ref a_p0_coups, .ref a_p0_past, .ref a_p0_fairDays, .ref a_p0_images, .ref a_p0_imageHeld, .ref a_p0_sheets, .int (Int32.ofInt i_p0_latestFault), .int (Int32.ofInt i_p0_latestTear)])), (a_p0_rules, .inr (6, [.int (Int32.ofInt i_p0_rules_seats), .int (Int32.ofInt i_p0_rules_stirs), .ref a_p0_rules_need, .ref a_p0_rules_kind, .ref a_p0_rules_first, .ref a_p0_rules_second, .ref a_p0_rules_after])), (a_p0_rules_after, .inl (G 1, 35, .inl (zA v_p0_rules_after))), (a_p0_state, .inr (8, [.ref a_p0_state_pieces, .ref a_p0_state_friends, .ref a_p0_state_spoons, .ref a_p0_state_eaten, .ref a_p0_state_seen, .int (Int32.ofInt i_p0_state_seenDays), .int (Int32.ofInt i_p0_state_bone), .int (Int32.ofInt i_p0_state_king), .int (Int32.ofInt i_p0_state_days)])), (a_p0_state_pieces, .inl (G 1, 7, .inl (zA v_p0_state_pieces))), (a_p0_state_friends, .inl (G 1, 7, .inl (zA v_p0_state_friends))), (a_p0_state_spoons, .inl (G 1, 7, .inl (zA v_p0_state_spoons))), (a_p0_kitchen, .inr (2, [.ref a_p0_rules, .ref a_p0_state, .ref a_p0_kitchen_places, .ref a_p0_kitchen_holders, .ref a_p0_kitchen_stirred])), (a_p0_kitchen_places, .inl (G 1, 49, .inl (zA w3))), (a_p0_kitchen_holders, .inl (G 1, 49, .inl (zA w4))), (a_p0_kitchen_stirred, .inl (G 1, 7, .inl (zA w5))), (a_p0_coups, .inr (0, [.ref a_p0_kitchen]))]) (va_runV (As := [.int (Int32.ofInt z8)]) (rest := []) ⟨hx, hb, hml, hown, hts⟩ (c_X0_leastLeader (l := l) (D := D) (G := G) (sz := H.size) (a_p0 := a_p0_coups) (a_p0_kitchen := a_p0_kitchen) (a_p0_kitchen_rules := a_p0_rules) (a_p0_kitchen_state := a_p0_state) (a_p0_kitchen_places := a_p0_kitchen_places) (a_p0_kitchen_holders := a_p0_kitchen_holders) (a_p0_kitchen_stirred := a_p0_kitchen_stirred) (a_p0_kitchen_rules_need := a_p0_rules_need) (a_p0_kitchen_rules_kind := a_p0_rules_kind) (a_p0_kitchen_rules_first := a_p0_rules_first) (a_p0_kitchen_rules_second := a_p0_rules_second) (a_p0_kitchen_rules_after := a_p0_rules_after) (a_p0_kitchen_state_pieces := a_p0_state_pieces) (a_p0_kitchen_state_friends := a_p0_state_friends) (a_p0_kitchen_state_spoons := a_p0_state_spoons) (a_p0_kitchen_state_eaten := a_p0_state_eaten) (a_p0_kitchen_state_seen := a_p0_state_seen) (i_p0_kitchen_rules_seats := i_p0_rules_seats) (i_p0_kitchen_rules_stirs := i_p0_rules_stirs) (i_p0_kitchen_state_seenDays := i_p0_state_seenDays) (i_p0_kitchen_state_bone := i_p0_state_bone) (i_p0_kitchen_state_king := i_p0_state_king) (i_p0_kitchen_state_days := i_p0_state_days) (v_p0_kitchen_state_spoons := v_p0_state_spoons) (v_p0_kitchen_places := w3) (v_p0_kitchen_stirred := w5) (x1 := z8) (r := z13) (hf := hcall)) (cwV 1 hts gX11_firm_X0_leastLeader rfl rfl rfl (by decide +kernel) ⟨Nat.le_of_ble_eq_true rfl, Nat.le_of_ble_eq_true rfl⟩) (preG_V (ci := 0) (hP.sub [11, 7, 1, 3, 6, 8, 10] rfl) (hD.sub [11, 7, 1, 3, 6, 8, 10] rfl rfl) hK rfl rfl) rfl rfl hl.1 rfl (lv_room (Nat.le_of_ble_eq_true rfl)) dX11_firm_48 ⟨Nat.le_of_ble_eq_true rfl, Nat.le_of_ble_eq_true rfl⟩) hP hD hS hA [11, 7, 1, 3, 6, 8, 10] [0, 2, 4, 5, 9] [0, 7, 1, 8, 2, 3, 9, 6, 10, 4, 11, 5] rfl rfl rfl (by decide) rfl rfl rfl (fun H locs hP hD hS => ?_)
          clear hcall
          refine lv_bipush (v := Int32.ofInt (-4 : Int)) hx hb dX11_firm_51 (by decide) ?_
          have hr13 := ck_c hf
          replace hf := ck_r hf
          refine lv_icmp_ne (tgt := 62) hx hb dX11_firm_53 (by decide) (fun cc => ?_) (fun cc => ?_)
          ·
            replace hf := ite_f (fun h9 => cc ((z_eq hr13 (by decide)).mpr h9)) hf
            clear cc
            obtain ⟨z15, ez⟩ : ∃ y : Int, y = (z8 + (1 : Int)) := ⟨_, rfl⟩
            replace hf := bnd_s hf ez
            refine lv_iinc (v := Int32.ofInt z15) (lv' := [(3, .int (Int32.ofInt z15)), (2, .int (Int32.ofInt z9)), (0, .ref a_p0)]) hx hb dX11_firm_62 hl (k := 0) rfl (by rw [ez]; exact (Int32.ofInt_add _ _).symm) (by decide) rfl (fun ls hl => ?_)
            clear ez
            refine lv_goto (tgt := 32) hx hb dX11_firm_65 (by decide) ?_
            exact ih32 _ _ _ _ _ (lv_sub hl [0, 1, 2] rfl) hP hD hS hf
          ·
            replace hf := ite_t ((z_eq hr13 (by decide)).mp cc) hf
            clear cc
            refine lv_iload_n hx hb dX11_firm_56 rfl (lv_at hl 1 rfl) ?_
            refine lv_iconst (v := Int32.ofInt (1 : Int)) hx hb dX11_firm_57 (by decide) ?_
            refine lv_iload_n hx hb dX11_firm_58 rfl (lv_at hl 0 rfl) ?_
            refine lv_ishl hx hb dX11_firm_59 (z_ci (z_shl_e (1 : Int) z8) ?_)
            refine lv_ior hx hb dX11_firm_60 (z_ci (z_or_e z9 (z_shl (1 : Int) z8)) ?_)
            refine z_topi (fun z16 ez => ?_)
            replace hf := bnd_s hf ez
            clear ez
            refine lv_istore_n (lv' := [(2, .int (Int32.ofInt z16)), (3, .int (Int32.ofInt z8)), (0, .ref a_p0)]) hx hb dX11_firm_61 rfl hl (by decide) rfl (fun ls hl => ?_)
            obtain ⟨z17, ez⟩ : ∃ y : Int, y = (z8 + (1 : Int)) := ⟨_, rfl⟩
            replace hf := bnd_s hf ez
            refine lv_iinc (v := Int32.ofInt z17) (lv' := [(3, .int (Int32.ofInt z17)), (2, .int (Int32.ofInt z16)), (0, .ref a_p0)]) hx hb dX11_firm_62 hl (k := 1) rfl (by rw [ez]; exact (Int32.ofInt_add _ _).symm) (by decide) rfl (fun ls hl => ?_)
            clear ez
            refine lv_goto (tgt := 32) hx hb dX11_firm_65 (by decide) ?_
            exact ih32 _ _ _ _ _ (lv_sub hl [0, 1, 2] rfl) hP hD hS hf
    exact hB10 _ _ _ _ _ _ (lv_sub hl [0, 1, 2] rfl) hP hD hS hf
  ·
    replace hf := ite_t ((z_eq0 hr1).mp cc) hf
    clear cc
    refine lv_iconst (v := Int32.ofInt (-1 : Int)) hx hb dX11_firm_11 (by decide) ?_
    obtain ⟨rfl, rfl, rfl, rfl⟩ := ou4 hf
    rw [hQ]
    exact W.iret hx hb hr (fun t ht hW => ⟨⟨_, (), rfl, rfl, by rw [ht]; exact hP, va_K.moved hW.alike hK, hD⟩, hS.F ht⟩) hS.2.2 dX11_firm_12

noncomputable def f_X11_see (i_p0_rules_seats : Int) (i_p0_state_seenDays : Int) (v_p0_state_seen : (Int → Int)) (x1 : Int) : Option (Int × Int × (Int → Int)) := (bd1 (f_X6_hasSeat i_p0_rules_seats x1) (fun (z1 : Int) => (ck (z_r32 z1) (if z1 = (0 : Int) then (some ((-1 : Int), i_p0_state_seenDays, v_p0_state_seen)) else (ck (z_r32 i_p0_state_seenDays) (if i_p0_state_seenDays < (6 : Int) then (ck (z_ix i_p0_state_seenDays 6) (bnd (z_up v_p0_state_seen i_p0_state_seenDays x1) (fun (w4 : (Int → Int)) => (bnd (i_p0_state_seenDays + (1 : Int)) (fun (z5 : Int) => (some (z5, z5, w4))))))) else (some ((-3 : Int), i_p0_state_seenDays, v_p0_state_seen))))))))
abbrev rm_X11_see : Room := { frames := 1, cells := 0, slots := 0, locals := 21 }
theorem inX11_see_X11 : ∀ w ∈ wsX110, w ∈ wsX11_see := by decide +kernel
theorem mwX11_see_1 : Cond.fieldLink RX11 10 "LadleKings" "rules" "LLadleKings$Rules;" ∈ wsX11_see := by decide +kernel
theorem mwX11_see_2 : Cond.fieldLink RX11 19 "LadleKings" "state" "LLadleKings$State;" ∈ wsX11_see := by decide +kernel
theorem inX11_see_X8 : ∀ w ∈ wsX80, w ∈ wsX11_see := by decide +kernel
theorem mwX11_see_4 : Cond.fieldLink RX11 247 "LadleKings$State" "seenDays" "I" ∈ wsX11_see := by decide +kernel
theorem mwX11_see_5 : Cond.fieldLink RX11 250 "LadleKings$State" "seen" "[I" ∈ wsX11_see := by decide +kernel
set_option maxHeartbeats 8000000 in
set_option maxRecDepth 100000 in
theorem c_X11_see (l : Launch) (D : va_G) (G : Nat → ClassId) (sz : Nat) (a_p0 : Nat) (a_p0_rules : Nat) (a_p0_state : Nat) (a_p0_tape : Nat) (a_p0_reader : Nat) (a_p0_kitchen : Nat) (a_p0_luck : Nat) (a_p0_plans : Nat) (a_p0_coups : Nat) (a_p0_past : Nat) (a_p0_fairDays : Nat) (a_p0_images : Nat) (a_p0_imageHeld : Nat) (a_p0_sheets : Nat) (a_p0_rules_need : Nat) (a_p0_rules_kind : Nat) (a_p0_rules_first : Nat) (a_p0_rules_second : Nat) (a_p0_rules_after : Nat) (a_p0_state_pieces : Nat) (a_p0_state_friends : Nat) (a_p0_state_spoons : Nat) (a_p0_state_eaten : Nat) (a_p0_state_seen : Nat) (i_p0_latestFault : Int) (i_p0_latestTear : Int) (i_p0_rules_seats : Int) (i_p0_rules_stirs : Int) (i_p0_state_seenDays : Int) (i_p0_state_bone : Int) (i_p0_state_king : Int) (i_p0_state_days : Int) (v_p0_state_seen : (Int → Int)) (x1 : Int) (r : Int) (o_i_p0_state_seenDays : Int) (o_v_p0_state_seen : (Int → Int)) (hf : f_X11_see i_p0_rules_seats i_p0_state_seenDays v_p0_state_seen x1 = some (r, o_i_p0_state_seenDays, o_v_p0_state_seen)) : Met l yX11_see wsX11_see rm_X11_see (pcG D G [.ref a_p0, .int (Int32.ofInt x1)] sz [(a_p0, .inr (11, [.ref a_p0_rules, .ref a_p0_state, .ref a_p0_tape, .ref a_p0_reader, .ref a_p0_kitchen, .ref a_p0_luck, .ref a_p0_plans, .ref a_p0_coups, .ref a_p0_past, .ref a_p0_fairDays, .ref a_p0_images, .ref a_p0_imageHeld, .ref a_p0_sheets, .int (Int32.ofInt i_p0_latestFault), .int (Int32.ofInt i_p0_latestTear)])), (a_p0_rules, .inr (6, [.int (Int32.ofInt i_p0_rules_seats), .int (Int32.ofInt i_p0_rules_stirs), .ref a_p0_rules_need, .ref a_p0_rules_kind, .ref a_p0_rules_first, .ref a_p0_rules_second, .ref a_p0_rules_after])), (a_p0_state, .inr (8, [.ref a_p0_state_pieces, .ref a_p0_state_friends, .ref a_p0_state_spoons, .ref a_p0_state_eaten, .ref a_p0_state_seen, .int (Int32.ofInt i_p0_state_seenDays), .int (Int32.ofInt i_p0_state_bone), .int (Int32.ofInt i_p0_state_king), .int (Int32.ofInt i_p0_state_days)])), (a_p0_state_seen, .inl (G 1, 6, .inl (zA v_p0_state_seen)))]) (qcI D G (Int32.ofInt r) [(a_p0, .inr (11, [.ref a_p0_rules, .ref a_p0_state, .ref a_p0_tape, .ref a_p0_reader, .ref a_p0_kitchen, .ref a_p0_luck, .ref a_p0_plans, .ref a_p0_coups, .ref a_p0_past, .ref a_p0_fairDays, .ref a_p0_images, .ref a_p0_imageHeld, .ref a_p0_sheets, .int (Int32.ofInt i_p0_latestFault), .int (Int32.ofInt i_p0_latestTear)])), (a_p0_rules, .inr (6, [.int (Int32.ofInt i_p0_rules_seats), .int (Int32.ofInt i_p0_rules_stirs), .ref a_p0_rules_need, .ref a_p0_rules_kind, .ref a_p0_rules_first, .ref a_p0_rules_second, .ref a_p0_rules_after])), (a_p0_state, .inr (8, [.ref a_p0_state_pieces, .ref a_p0_state_friends, .ref a_p0_state_spoons, .ref a_p0_state_eaten, .ref a_p0_state_seen, .int (Int32.ofInt o_i_p0_state_seenDays), .int (Int32.ofInt i_p0_state_bone), .int (Int32.ofInt i_p0_state_king), .int (Int32.ofInt i_p0_state_days)])), (a_p0_state_seen, .inl (G 1, 6, .inl (zA o_v_p0_state_seen)))] (va_A [(a_p0, .inr (11, [.ref a_p0_rules, .ref a_p0_state, .ref a_p0_tape, .ref a_p0_reader, .ref a_p0_kitchen, .ref a_p0_luck, .ref a_p0_plans, .ref a_p0_coups, .ref a_p0_past, .ref a_p0_fairDays, .ref a_p0_images, .ref a_p0_imageHeld, .ref a_p0_sheets, .int (Int32.ofInt i_p0_latestFault), .int (Int32.ofInt i_p0_latestTear)])), (a_p0_rules, .inr (6, [.int (Int32.ofInt i_p0_rules_seats), .int (Int32.ofInt i_p0_rules_stirs), .ref a_p0_rules_need, .ref a_p0_rules_kind, .ref a_p0_rules_first, .ref a_p0_rules_second, .ref a_p0_rules_after])), (a_p0_state, .inr (8, [.ref a_p0_state_pieces, .ref a_p0_state_friends, .ref a_p0_state_spoons, .ref a_p0_state_eaten, .ref a_p0_state_seen, .int (Int32.ofInt i_p0_state_seenDays), .int (Int32.ofInt i_p0_state_bone), .int (Int32.ofInt i_p0_state_king), .int (Int32.ofInt i_p0_state_days)])), (a_p0_state_seen, .inl (G 1, 6, .inl (zA v_p0_state_seen)))] sz)) 0 0 (va_A [(a_p0, .inr (11, [.ref a_p0_rules, .ref a_p0_state, .ref a_p0_tape, .ref a_p0_reader, .ref a_p0_kitchen, .ref a_p0_luck, .ref a_p0_plans, .ref a_p0_coups, .ref a_p0_past, .ref a_p0_fairDays, .ref a_p0_images, .ref a_p0_imageHeld, .ref a_p0_sheets, .int (Int32.ofInt i_p0_latestFault), .int (Int32.ofInt i_p0_latestTear)])), (a_p0_rules, .inr (6, [.int (Int32.ofInt i_p0_rules_seats), .int (Int32.ofInt i_p0_rules_stirs), .ref a_p0_rules_need, .ref a_p0_rules_kind, .ref a_p0_rules_first, .ref a_p0_rules_second, .ref a_p0_rules_after])), (a_p0_state, .inr (8, [.ref a_p0_state_pieces, .ref a_p0_state_friends, .ref a_p0_state_spoons, .ref a_p0_state_eaten, .ref a_p0_state_seen, .int (Int32.ofInt i_p0_state_seenDays), .int (Int32.ofInt i_p0_state_bone), .int (Int32.ofInt i_p0_state_king), .int (Int32.ofInt i_p0_state_days)])), (a_p0_state_seen, .inl (G 1, 6, .inl (zA v_p0_state_seen)))] sz) := by
  refine Met.ofW (cc := cX11_see) (maxL := 2) (ret := (some .int)) (by decide) rfl ?_
  intro p e s m args below meth c s₁ B hml hv
  obtain ⟨rfl, hsz, hP, hK, hD0⟩ := hv
  have hx := B.exec
  have hb := B.bytes
  have hr := B.returns
  have hts := atoms_spec (ws := wsX11_see) B.pre
  have hown : s.vm.findClass RX11 = some m.cls := findClass_of_methodNamed B.named
  have hlocks := B.notSynchronized
  subst hsz
  have hD := hD0.self (sz := s.heap.size)
  generalize hAe : va_A [(a_p0, .inr (11, [.ref a_p0_rules, .ref a_p0_state, .ref a_p0_tape, .ref a_p0_reader, .ref a_p0_kitchen, .ref a_p0_luck, .ref a_p0_plans, .ref a_p0_coups, .ref a_p0_past, .ref a_p0_fairDays, .ref a_p0_images, .ref a_p0_imageHeld, .ref a_p0_sheets, .int (Int32.ofInt i_p0_latestFault), .int (Int32.ofInt i_p0_latestTear)])), (a_p0_rules, .inr (6, [.int (Int32.ofInt i_p0_rules_seats), .int (Int32.ofInt i_p0_rules_stirs), .ref a_p0_rules_need, .ref a_p0_rules_kind, .ref a_p0_rules_first, .ref a_p0_rules_second, .ref a_p0_rules_after])), (a_p0_state, .inr (8, [.ref a_p0_state_pieces, .ref a_p0_state_friends, .ref a_p0_state_spoons, .ref a_p0_state_eaten, .ref a_p0_state_seen, .int (Int32.ofInt i_p0_state_seenDays), .int (Int32.ofInt i_p0_state_bone), .int (Int32.ofInt i_p0_state_king), .int (Int32.ofInt i_p0_state_days)])), (a_p0_state_seen, .inl (G 1, 6, .inl (zA v_p0_state_seen)))] s.heap.size = A at hD ⊢
  have hA : ∀ q : Nat, s.heap.size ≤ q → A q := fun q h => by rw [← hAe]; exact Or.inr h
  clear hAe hD0
  have hS : va_S A s.heap s.heap [] := va_S.rf
  have hl := lv_entry ([.ref a_p0, .int (Int32.ofInt x1)]) (n := 2) (Nat.le_of_ble_eq_true rfl)
  rw [lg_entry_eq]
  generalize (lg_sl ([.ref a_p0, .int (Int32.ofInt x1)]) ++ List.replicate (2 - (lg_sl ([.ref a_p0, .int (Int32.ofInt x1)])).length) Slot.unset).toArray = ls at hl ⊢
  have hl : lv_has ls 2 [(0, .ref a_p0), (1, .int (Int32.ofInt x1))] := hl
  refine W_nameQ (fun Q hQ => ?_)
  obtain ⟨H, hH⟩ : ∃ H, H = s.heap := ⟨_, rfl⟩
  replace hS : va_S A s.heap H [] := by rw [hH]; exact hS
  replace hP : va_P D vwCl [(a_p0, .inr (11, [.ref a_p0_rules, .ref a_p0_state, .ref a_p0_tape, .ref a_p0_reader, .ref a_p0_kitchen, .ref a_p0_luck, .ref a_p0_plans, .ref a_p0_coups, .ref a_p0_past, .ref a_p0_fairDays, .ref a_p0_images, .ref a_p0_imageHeld, .ref a_p0_sheets, .int (Int32.ofInt i_p0_latestFault), .int (Int32.ofInt i_p0_latestTear)])), (a_p0_rules, .inr (6, [.int (Int32.ofInt i_p0_rules_seats), .int (Int32.ofInt i_p0_rules_stirs), .ref a_p0_rules_need, .ref a_p0_rules_kind, .ref a_p0_rules_first, .ref a_p0_rules_second, .ref a_p0_rules_after])), (a_p0_state, .inr (8, [.ref a_p0_state_pieces, .ref a_p0_state_friends, .ref a_p0_state_spoons, .ref a_p0_state_eaten, .ref a_p0_state_seen, .int (Int32.ofInt i_p0_state_seenDays), .int (Int32.ofInt i_p0_state_bone), .int (Int32.ofInt i_p0_state_king), .int (Int32.ofInt i_p0_state_days)])), (a_p0_state_seen, .inl (G 1, 6, .inl (zA v_p0_state_seen)))] H := by rw [hH]; exact hP
  rw [← hH]
  clear hH
  unfold f_X11_see at hf
  refine lv_aload_n hx hb dX11_see_0 rfl (lv_at hl 0 rfl) ?_
  refine va_get (D := D) (ci := 11) (v := .ref a_p0_rules) (C := RX11) (T := TX11) (N := 15) hx hb hts inX11_see_X11 hown hK hP 0 rfl rfl 0 (by decide) (hts _ mwX11_see_1) (fun _ h9 => h9) rfl dX11_see_1 ?_
  refine lv_iload_n hx hb dX11_see_4 rfl (lv_at hl 1 rfl) ?_
  have hq := bd1_s hf
  clear hf
  obtain ⟨z1, hcall, hf⟩ := hq
  refine gcI (ws' := [(a_p0, .inr (11, [.ref a_p0_rules, .ref a_p0_state, .ref a_p0_tape, .ref a_p0_reader, .ref a_p0_kitchen, .ref a_p0_luck, .ref a_p0_plans, .ref a_p0_coups, .ref a_p0_past, .ref a_p0_fairDays, .ref a_p0_images, .ref a_p0_imageHeld, .ref a_p0_sheets, .int (Int32.ofInt i_p0_latestFault), .int (Int32.ofInt i_p0_latestTear)])), (a_p0_rules, .inr (6, [.int (Int32.ofInt i_p0_rules_seats), .int (Int32.ofInt i_p0_rules_stirs), .ref a_p0_rules_need, .ref a_p0_rules_kind, .ref a_p0_rules_first, .ref a_p0_rules_second, .ref a_p0_rules_after])), (a_p0_state, .inr (8, [.ref a_p0_state_pieces, .ref a_p0_state_friends, .ref a_p0_state_spoons, .ref a_p0_state_eaten, .ref a_p0_state_seen, .int (Int32.ofInt i_p0_state_seenDays), .int (Int32.ofInt i_p0_state_bone), .int (Int32.ofInt i_p0_state_king), .int (Int32.ofInt i_p0_state_days)])), (a_p0_state_seen, .inl (G 1, 6, .inl (zA v_p0_state_seen)))]) (va_runV (As := [.int (Int32.ofInt x1)]) (rest := []) ⟨hx, hb, hml, hown, hts⟩ (c_X6_hasSeat (l := l) (D := D) (G := G) (sz := H.size) (a_p0 := a_p0_rules) (a_p0_need := a_p0_rules_need) (a_p0_kind := a_p0_rules_kind) (a_p0_first := a_p0_rules_first) (a_p0_second := a_p0_rules_second) (a_p0_after := a_p0_rules_after) (i_p0_seats := i_p0_rules_seats) (i_p0_stirs := i_p0_rules_stirs) (x1 := x1) (r := z1) (hf := hcall)) (cwV 1 hts gX11_see_X6_hasSeat rfl rfl rfl (by decide +kernel) ⟨Nat.le_of_ble_eq_true rfl, Nat.le_of_ble_eq_true rfl⟩) (preG_V (ci := 6) (hP.sub [1] rfl) (hD.sub [1] rfl rfl) hK rfl rfl) rfl rfl hl.1 rfl (lv_room (Nat.le_of_ble_eq_true rfl)) dX11_see_5 ⟨Nat.le_of_ble_eq_true rfl, Nat.le_of_ble_eq_true rfl⟩) hP hD hS hA [1] [0, 2, 3] [0, 3, 1, 2] rfl rfl rfl (by decide) rfl rfl rfl (fun H locs hP hD hS => ?_)
  clear hcall
  have hr1 := ck_c hf
  replace hf := ck_r hf
  refine lv_if_ne (tgt := 13) hx hb dX11_see_8 (by decide) (fun cc => ?_) (fun cc => ?_)
  ·
    replace hf := ite_f (fun h9 => cc ((z_eq0 hr1).mpr h9)) hf
    clear cc
    refine lv_aload_n hx hb dX11_see_13 rfl (lv_at hl 0 rfl) ?_
    refine va_get (D := D) (ci := 11) (v := .ref a_p0_state) (C := RX11) (T := TX11) (N := 15) hx hb hts inX11_see_X11 hown hK hP 0 rfl rfl 1 (by decide) (hts _ mwX11_see_2) (fun _ h9 => h9) rfl dX11_see_14 ?_
    refine va_get (D := D) (ci := 8) (v := .int (Int32.ofInt i_p0_state_seenDays)) (C := RX8) (T := TX8) (N := 9) hx hb hts inX11_see_X8 hown hK hP 2 rfl rfl 5 (by decide) (hts _ mwX11_see_4) (fun _ h9 => h9) rfl dX11_see_17 ?_
    refine lv_bipush (v := Int32.ofInt (6 : Int)) hx hb dX11_see_20 (by decide) ?_
    have hr2 := ck_c hf
    replace hf := ck_r hf
    refine lv_icmp_lt (tgt := 28) hx hb dX11_see_22 (by decide) (fun cc => ?_) (fun cc => ?_)
    ·
      replace hf := ite_t ((z_lt hr2 (by decide)).mp cc) hf
      clear cc
      refine lv_aload_n hx hb dX11_see_28 rfl (lv_at hl 0 rfl) ?_
      refine va_get (D := D) (ci := 11) (v := .ref a_p0_state) (C := RX11) (T := TX11) (N := 15) hx hb hts inX11_see_X11 hown hK hP 0 rfl rfl 1 (by decide) (hts _ mwX11_see_2) (fun _ h9 => h9) rfl dX11_see_29 ?_
      refine va_get (D := D) (ci := 8) (v := .ref a_p0_state_seen) (C := RX8) (T := TX8) (N := 9) hx hb hts inX11_see_X8 hown hK hP 2 rfl rfl 4 (by decide) (hts _ mwX11_see_5) (fun _ h9 => h9) rfl dX11_see_32 ?_
      refine lv_aload_n hx hb dX11_see_35 rfl (lv_at hl 0 rfl) ?_
      refine va_get (D := D) (ci := 11) (v := .ref a_p0_state) (C := RX11) (T := TX11) (N := 15) hx hb hts inX11_see_X11 hown hK hP 0 rfl rfl 1 (by decide) (hts _ mwX11_see_2) (fun _ h9 => h9) rfl dX11_see_36 ?_
      refine va_get (D := D) (ci := 8) (v := .int (Int32.ofInt i_p0_state_seenDays)) (C := RX8) (T := TX8) (N := 9) hx hb hts inX11_see_X8 hown hK hP 2 rfl rfl 5 (by decide) (hts _ mwX11_see_4) (fun _ h9 => h9) rfl dX11_see_39 ?_
      refine lv_iload_n hx hb dX11_see_42 rfl (lv_at hl 1 rfl) ?_
      have hc := ck_c hf
      replace hf := ck_r hf
      refine zs_iast (wf := fun w4 => [(a_p0, .inr (11, [.ref a_p0_rules, .ref a_p0_state, .ref a_p0_tape, .ref a_p0_reader, .ref a_p0_kitchen, .ref a_p0_luck, .ref a_p0_plans, .ref a_p0_coups, .ref a_p0_past, .ref a_p0_fairDays, .ref a_p0_images, .ref a_p0_imageHeld, .ref a_p0_sheets, .int (Int32.ofInt i_p0_latestFault), .int (Int32.ofInt i_p0_latestTear)])), (a_p0_rules, .inr (6, [.int (Int32.ofInt i_p0_rules_seats), .int (Int32.ofInt i_p0_rules_stirs), .ref a_p0_rules_need, .ref a_p0_rules_kind, .ref a_p0_rules_first, .ref a_p0_rules_second, .ref a_p0_rules_after])), (a_p0_state, .inr (8, [.ref a_p0_state_pieces, .ref a_p0_state_friends, .ref a_p0_state_spoons, .ref a_p0_state_eaten, .ref a_p0_state_seen, .int (Int32.ofInt i_p0_state_seenDays), .int (Int32.ofInt i_p0_state_bone), .int (Int32.ofInt i_p0_state_king), .int (Int32.ofInt i_p0_state_days)])), (a_p0_state_seen, .inl (G 1, 6, .inl (zA w4)))]) hx hb hK hP hD hS 3 1 rfl rfl hc dX11_see_43 (fun _ => rfl) (fun w4 ez H locs hP hD hS => ?_)
      replace hf := bnd_s hf ez
      clear ez hc
      refine lv_aload_n hx hb dX11_see_44 rfl (lv_at hl 0 rfl) ?_
      refine va_get (D := D) (ci := 11) (v := .ref a_p0_state) (C := RX11) (T := TX11) (N := 15) hx hb hts inX11_see_X11 hown hK hP 0 rfl rfl 1 (by decide) (hts _ mwX11_see_2) (fun _ h9 => h9) rfl dX11_see_45 ?_
      refine lv_dup hx hb dX11_see_48 rfl ?_
      refine va_get (D := D) (ci := 8) (v := .int (Int32.ofInt i_p0_state_seenDays)) (C := RX8) (T := TX8) (N := 9) hx hb hts inX11_see_X8 hown hK hP 2 rfl rfl 5 (by decide) (hts _ mwX11_see_4) (fun _ h9 => h9) rfl dX11_see_49 ?_
      refine lv_iconst (v := Int32.ofInt (1 : Int)) hx hb dX11_see_52 (by decide) ?_
      refine lv_iadd hx hb dX11_see_53 (z_ci (Int32.ofInt_add i_p0_state_seenDays (1 : Int)) ?_)
      refine z_topi (fun z5 ez => ?_)
      replace hf := bnd_s hf ez
      clear ez
      refine va_put (D := D) (ci := 8) (v := .int (Int32.ofInt z5)) (ty := .int) (C := RX8) (T := TX8) (N := 9) hx hb hts inX11_see_X8 tyX8 tyX8_ok nmX8 hown hK hP hD hS 2 rfl rfl 5 (by decide) (hts _ mwX11_see_4) (fun _ h9 => h9) rfl (by decide +kernel) rfl rfl (Nat.le_of_ble_eq_true rfl) dX11_see_54 (fun H locs hP hD hS => ?_)
      have hP : va_P D vwCl [(a_p0, .inr (11, [.ref a_p0_rules, .ref a_p0_state, .ref a_p0_tape, .ref a_p0_reader, .ref a_p0_kitchen, .ref a_p0_luck, .ref a_p0_plans, .ref a_p0_coups, .ref a_p0_past, .ref a_p0_fairDays, .ref a_p0_images, .ref a_p0_imageHeld, .ref a_p0_sheets, .int (Int32.ofInt i_p0_latestFault), .int (Int32.ofInt i_p0_latestTear)])), (a_p0_rules, .inr (6, [.int (Int32.ofInt i_p0_rules_seats), .int (Int32.ofInt i_p0_rules_stirs), .ref a_p0_rules_need, .ref a_p0_rules_kind, .ref a_p0_rules_first, .ref a_p0_rules_second, .ref a_p0_rules_after])), (a_p0_state, .inr (8, [.ref a_p0_state_pieces, .ref a_p0_state_friends, .ref a_p0_state_spoons, .ref a_p0_state_eaten, .ref a_p0_state_seen, .int (Int32.ofInt z5), .int (Int32.ofInt i_p0_state_bone), .int (Int32.ofInt i_p0_state_king), .int (Int32.ofInt i_p0_state_days)])), (a_p0_state_seen, .inl (G 1, 6, .inl (zA w4)))] H := hP
      have hD : va_D A [(a_p0, .inr (11, [.ref a_p0_rules, .ref a_p0_state, .ref a_p0_tape, .ref a_p0_reader, .ref a_p0_kitchen, .ref a_p0_luck, .ref a_p0_plans, .ref a_p0_coups, .ref a_p0_past, .ref a_p0_fairDays, .ref a_p0_images, .ref a_p0_imageHeld, .ref a_p0_sheets, .int (Int32.ofInt i_p0_latestFault), .int (Int32.ofInt i_p0_latestTear)])), (a_p0_rules, .inr (6, [.int (Int32.ofInt i_p0_rules_seats), .int (Int32.ofInt i_p0_rules_stirs), .ref a_p0_rules_need, .ref a_p0_rules_kind, .ref a_p0_rules_first, .ref a_p0_rules_second, .ref a_p0_rules_after])), (a_p0_state, .inr (8, [.ref a_p0_state_pieces, .ref a_p0_state_friends, .ref a_p0_state_spoons, .ref a_p0_state_eaten, .ref a_p0_state_seen, .int (Int32.ofInt z5), .int (Int32.ofInt i_p0_state_bone), .int (Int32.ofInt i_p0_state_king), .int (Int32.ofInt i_p0_state_days)])), (a_p0_state_seen, .inl (G 1, 6, .inl (zA w4)))] := hD
      refine lv_aload_n hx hb dX11_see_57 rfl (lv_at hl 0 rfl) ?_
      refine va_get (D := D) (ci := 11) (v := .ref a_p0_state) (C := RX11) (T := TX11) (N := 15) hx hb hts inX11_see_X11 hown hK hP 0 rfl rfl 1 (by decide) (hts _ mwX11_see_2) (fun _ h9 => h9) rfl dX11_see_58 ?_
      refine va_get (D := D) (ci := 8) (v := .int (Int32.ofInt z5)) (C := RX8) (T := TX8) (N := 9) hx hb hts inX11_see_X8 hown hK hP 2 rfl rfl 5 (by decide) (hts _ mwX11_see_4) (fun _ h9 => h9) rfl dX11_see_61 ?_
      obtain ⟨rfl, rfl, rfl⟩ := ou3 hf
      rw [hQ]
      exact W.iret hx hb hr (fun t ht hW => ⟨⟨_, (), rfl, rfl, by rw [ht]; exact hP, va_K.moved hW.alike hK, hD⟩, hS.F ht⟩) hS.2.2 dX11_see_64
    ·
      replace hf := ite_f (fun h9 => cc ((z_lt hr2 (by decide)).mpr h9)) hf
      clear cc
      refine lv_bipush (v := Int32.ofInt (-3 : Int)) hx hb dX11_see_25 (by decide) ?_
      obtain ⟨rfl, rfl, rfl⟩ := ou3 hf
      rw [hQ]
      exact W.iret hx hb hr (fun t ht hW => ⟨⟨_, (), rfl, rfl, by rw [ht]; exact hP, va_K.moved hW.alike hK, hD⟩, hS.F ht⟩) hS.2.2 dX11_see_27
  ·
    replace hf := ite_t ((z_eq0 hr1).mp cc) hf
    clear cc
    refine lv_iconst (v := Int32.ofInt (-1 : Int)) hx hb dX11_see_11 (by decide) ?_
    obtain ⟨rfl, rfl, rfl⟩ := ou3 hf
    rw [hQ]
    exact W.iret hx hb hr (fun t ht hW => ⟨⟨_, (), rfl, rfl, by rw [ht]; exact hP, va_K.moved hW.alike hK, hD⟩, hS.F ht⟩) hS.2.2 dX11_see_12

noncomputable def f_X11_forget (i_p0_state_seenDays : Int) (x1 : Int) : Option (Int × Int) := (ck (z_r32 x1) (if x1 < (0 : Int) then (some ((-1 : Int), i_p0_state_seenDays)) else (ck (z_r32 i_p0_state_seenDays) (if x1 ≤ i_p0_state_seenDays then (bnd i_p0_state_seenDays (fun (z3 : Int) => (bnd x1 (fun (z4 : Int) => (some (z3, z4)))))) else (some ((-1 : Int), i_p0_state_seenDays))))))
abbrev rm_X11_forget : Room := { frames := 0, cells := 0, slots := 0, locals := 0 }
theorem inX11_forget_X11 : ∀ w ∈ wsX110, w ∈ wsX11_forget := by decide +kernel
theorem mwX11_forget_1 : Cond.fieldLink RX11 19 "LadleKings" "state" "LLadleKings$State;" ∈ wsX11_forget := by decide +kernel
theorem inX11_forget_X8 : ∀ w ∈ wsX80, w ∈ wsX11_forget := by decide +kernel
theorem mwX11_forget_3 : Cond.fieldLink RX11 247 "LadleKings$State" "seenDays" "I" ∈ wsX11_forget := by decide +kernel
set_option maxHeartbeats 8000000 in
set_option maxRecDepth 100000 in
theorem c_X11_forget (l : Launch) (D : va_G) (G : Nat → ClassId) (sz : Nat) (a_p0 : Nat) (a_p0_rules : Nat) (a_p0_state : Nat) (a_p0_tape : Nat) (a_p0_reader : Nat) (a_p0_kitchen : Nat) (a_p0_luck : Nat) (a_p0_plans : Nat) (a_p0_coups : Nat) (a_p0_past : Nat) (a_p0_fairDays : Nat) (a_p0_images : Nat) (a_p0_imageHeld : Nat) (a_p0_sheets : Nat) (a_p0_state_pieces : Nat) (a_p0_state_friends : Nat) (a_p0_state_spoons : Nat) (a_p0_state_eaten : Nat) (a_p0_state_seen : Nat) (i_p0_latestFault : Int) (i_p0_latestTear : Int) (i_p0_state_seenDays : Int) (i_p0_state_bone : Int) (i_p0_state_king : Int) (i_p0_state_days : Int) (x1 : Int) (r : Int) (o_i_p0_state_seenDays : Int) (hf : f_X11_forget i_p0_state_seenDays x1 = some (r, o_i_p0_state_seenDays)) : Met l yX11_forget wsX11_forget rm_X11_forget (pcG D G [.ref a_p0, .int (Int32.ofInt x1)] sz [(a_p0, .inr (11, [.ref a_p0_rules, .ref a_p0_state, .ref a_p0_tape, .ref a_p0_reader, .ref a_p0_kitchen, .ref a_p0_luck, .ref a_p0_plans, .ref a_p0_coups, .ref a_p0_past, .ref a_p0_fairDays, .ref a_p0_images, .ref a_p0_imageHeld, .ref a_p0_sheets, .int (Int32.ofInt i_p0_latestFault), .int (Int32.ofInt i_p0_latestTear)])), (a_p0_state, .inr (8, [.ref a_p0_state_pieces, .ref a_p0_state_friends, .ref a_p0_state_spoons, .ref a_p0_state_eaten, .ref a_p0_state_seen, .int (Int32.ofInt i_p0_state_seenDays), .int (Int32.ofInt i_p0_state_bone), .int (Int32.ofInt i_p0_state_king), .int (Int32.ofInt i_p0_state_days)]))]) (qcI D G (Int32.ofInt r) [(a_p0, .inr (11, [.ref a_p0_rules, .ref a_p0_state, .ref a_p0_tape, .ref a_p0_reader, .ref a_p0_kitchen, .ref a_p0_luck, .ref a_p0_plans, .ref a_p0_coups, .ref a_p0_past, .ref a_p0_fairDays, .ref a_p0_images, .ref a_p0_imageHeld, .ref a_p0_sheets, .int (Int32.ofInt i_p0_latestFault), .int (Int32.ofInt i_p0_latestTear)])), (a_p0_state, .inr (8, [.ref a_p0_state_pieces, .ref a_p0_state_friends, .ref a_p0_state_spoons, .ref a_p0_state_eaten, .ref a_p0_state_seen, .int (Int32.ofInt o_i_p0_state_seenDays), .int (Int32.ofInt i_p0_state_bone), .int (Int32.ofInt i_p0_state_king), .int (Int32.ofInt i_p0_state_days)]))] (va_A [(a_p0, .inr (11, [.ref a_p0_rules, .ref a_p0_state, .ref a_p0_tape, .ref a_p0_reader, .ref a_p0_kitchen, .ref a_p0_luck, .ref a_p0_plans, .ref a_p0_coups, .ref a_p0_past, .ref a_p0_fairDays, .ref a_p0_images, .ref a_p0_imageHeld, .ref a_p0_sheets, .int (Int32.ofInt i_p0_latestFault), .int (Int32.ofInt i_p0_latestTear)])), (a_p0_state, .inr (8, [.ref a_p0_state_pieces, .ref a_p0_state_friends, .ref a_p0_state_spoons, .ref a_p0_state_eaten, .ref a_p0_state_seen, .int (Int32.ofInt i_p0_state_seenDays), .int (Int32.ofInt i_p0_state_bone), .int (Int32.ofInt i_p0_state_king), .int (Int32.ofInt i_p0_state_days)]))] sz)) 0 0 (va_A [(a_p0, .inr (11, [.ref a_p0_rules, .ref a_p0_state, .ref a_p0_tape, .ref a_p0_reader, .ref a_p0_kitchen, .ref a_p0_luck, .ref a_p0_plans, .ref a_p0_coups, .ref a_p0_past, .ref a_p0_fairDays, .ref a_p0_images, .ref a_p0_imageHeld, .ref a_p0_sheets, .int (Int32.ofInt i_p0_latestFault), .int (Int32.ofInt i_p0_latestTear)])), (a_p0_state, .inr (8, [.ref a_p0_state_pieces, .ref a_p0_state_friends, .ref a_p0_state_spoons, .ref a_p0_state_eaten, .ref a_p0_state_seen, .int (Int32.ofInt i_p0_state_seenDays), .int (Int32.ofInt i_p0_state_bone), .int (Int32.ofInt i_p0_state_king), .int (Int32.ofInt i_p0_state_days)]))] sz) := by
  refine Met.ofW (cc := cX11_forget) (maxL := 3) (ret := (some .int)) (by decide) rfl ?_
  intro p e s m args below meth c s₁ B hml hv
  obtain ⟨rfl, hsz, hP, hK, hD0⟩ := hv
  have hx := B.exec
  have hb := B.bytes
  have hr := B.returns
  have hts := atoms_spec (ws := wsX11_forget) B.pre
  have hown : s.vm.findClass RX11 = some m.cls := findClass_of_methodNamed B.named
  have hlocks := B.notSynchronized
  subst hsz
  have hD := hD0.self (sz := s.heap.size)
  generalize hAe : va_A [(a_p0, .inr (11, [.ref a_p0_rules, .ref a_p0_state, .ref a_p0_tape, .ref a_p0_reader, .ref a_p0_kitchen, .ref a_p0_luck, .ref a_p0_plans, .ref a_p0_coups, .ref a_p0_past, .ref a_p0_fairDays, .ref a_p0_images, .ref a_p0_imageHeld, .ref a_p0_sheets, .int (Int32.ofInt i_p0_latestFault), .int (Int32.ofInt i_p0_latestTear)])), (a_p0_state, .inr (8, [.ref a_p0_state_pieces, .ref a_p0_state_friends, .ref a_p0_state_spoons, .ref a_p0_state_eaten, .ref a_p0_state_seen, .int (Int32.ofInt i_p0_state_seenDays), .int (Int32.ofInt i_p0_state_bone), .int (Int32.ofInt i_p0_state_king), .int (Int32.ofInt i_p0_state_days)]))] s.heap.size = A at hD ⊢
  have hA : ∀ q : Nat, s.heap.size ≤ q → A q := fun q h => by rw [← hAe]; exact Or.inr h
  clear hAe hD0
  have hS : va_S A s.heap s.heap [] := va_S.rf
  have hl := lv_entry ([.ref a_p0, .int (Int32.ofInt x1)]) (n := 3) (Nat.le_of_ble_eq_true rfl)
  rw [lg_entry_eq]
  generalize (lg_sl ([.ref a_p0, .int (Int32.ofInt x1)]) ++ List.replicate (3 - (lg_sl ([.ref a_p0, .int (Int32.ofInt x1)])).length) Slot.unset).toArray = ls at hl ⊢
  have hl : lv_has ls 3 [(0, .ref a_p0), (1, .int (Int32.ofInt x1))] := hl
  refine W_nameQ (fun Q hQ => ?_)
  obtain ⟨H, hH⟩ : ∃ H, H = s.heap := ⟨_, rfl⟩
  replace hS : va_S A s.heap H [] := by rw [hH]; exact hS
  replace hP : va_P D vwCl [(a_p0, .inr (11, [.ref a_p0_rules, .ref a_p0_state, .ref a_p0_tape, .ref a_p0_reader, .ref a_p0_kitchen, .ref a_p0_luck, .ref a_p0_plans, .ref a_p0_coups, .ref a_p0_past, .ref a_p0_fairDays, .ref a_p0_images, .ref a_p0_imageHeld, .ref a_p0_sheets, .int (Int32.ofInt i_p0_latestFault), .int (Int32.ofInt i_p0_latestTear)])), (a_p0_state, .inr (8, [.ref a_p0_state_pieces, .ref a_p0_state_friends, .ref a_p0_state_spoons, .ref a_p0_state_eaten, .ref a_p0_state_seen, .int (Int32.ofInt i_p0_state_seenDays), .int (Int32.ofInt i_p0_state_bone), .int (Int32.ofInt i_p0_state_king), .int (Int32.ofInt i_p0_state_days)]))] H := by rw [hH]; exact hP
  rw [← hH]
  clear hH
  unfold f_X11_forget at hf
  refine lv_iload_n hx hb dX11_forget_0 rfl (lv_at hl 1 rfl) ?_
  have hr0 := ck_c hf
  replace hf := ck_r hf
  refine lv_if_lt (tgt := 15) hx hb dX11_forget_1 (by decide) (fun cc => ?_) (fun cc => ?_)
  ·
    replace hf := ite_t ((z_lt0 hr0).mp cc) hf
    clear cc
    refine lv_iconst (v := Int32.ofInt (-1 : Int)) hx hb dX11_forget_15 (by decide) ?_
    obtain ⟨rfl, rfl⟩ := ou2 hf
    rw [hQ]
    exact W.iret hx hb hr (fun t ht hW => ⟨⟨_, (), rfl, rfl, by rw [ht]; exact hP, va_K.moved hW.alike hK, hD⟩, hS.F ht⟩) hS.2.2 dX11_forget_16
  ·
    replace hf := ite_f (fun h9 => cc ((z_lt0 hr0).mpr h9)) hf
    clear cc
    refine lv_iload_n hx hb dX11_forget_4 rfl (lv_at hl 1 rfl) ?_
    refine lv_aload_n hx hb dX11_forget_5 rfl (lv_at hl 0 rfl) ?_
    refine va_get (D := D) (ci := 11) (v := .ref a_p0_state) (C := RX11) (T := TX11) (N := 15) hx hb hts inX11_forget_X11 hown hK hP 0 rfl rfl 1 (by decide) (hts _ mwX11_forget_1) (fun _ h9 => h9) rfl dX11_forget_6 ?_
    refine va_get (D := D) (ci := 8) (v := .int (Int32.ofInt i_p0_state_seenDays)) (C := RX8) (T := TX8) (N := 9) hx hb hts inX11_forget_X8 hown hK hP 1 rfl rfl 5 (by decide) (hts _ mwX11_forget_3) (fun _ h9 => h9) rfl dX11_forget_9 ?_
    have hr1 := ck_c hf
    replace hf := ck_r hf
    refine lv_icmp_le (tgt := 17) hx hb dX11_forget_12 (by decide) (fun cc => ?_) (fun cc => ?_)
    ·
      replace hf := ite_t ((z_le hr0 hr1).mp cc) hf
      clear cc
      refine lv_aload_n hx hb dX11_forget_17 rfl (lv_at hl 0 rfl) ?_
      refine va_get (D := D) (ci := 11) (v := .ref a_p0_state) (C := RX11) (T := TX11) (N := 15) hx hb hts inX11_forget_X11 hown hK hP 0 rfl rfl 1 (by decide) (hts _ mwX11_forget_1) (fun _ h9 => h9) rfl dX11_forget_18 ?_
      refine va_get (D := D) (ci := 8) (v := .int (Int32.ofInt i_p0_state_seenDays)) (C := RX8) (T := TX8) (N := 9) hx hb hts inX11_forget_X8 hown hK hP 1 rfl rfl 5 (by decide) (hts _ mwX11_forget_3) (fun _ h9 => h9) rfl dX11_forget_21 ?_
      refine z_topi (fun z3 ez => ?_)
      replace hf := bnd_s hf ez
      clear ez
      refine lv_istore_n (lv' := [(2, .int (Int32.ofInt z3)), (0, .ref a_p0), (1, .int (Int32.ofInt x1))]) hx hb dX11_forget_24 rfl hl (by decide) rfl (fun ls hl => ?_)
      refine lv_aload_n hx hb dX11_forget_25 rfl (lv_at hl 1 rfl) ?_
      refine va_get (D := D) (ci := 11) (v := .ref a_p0_state) (C := RX11) (T := TX11) (N := 15) hx hb hts inX11_forget_X11 hown hK hP 0 rfl rfl 1 (by decide) (hts _ mwX11_forget_1) (fun _ h9 => h9) rfl dX11_forget_26 ?_
      refine lv_iload_n hx hb dX11_forget_29 rfl (lv_at hl 2 rfl) ?_
      refine z_topi (fun z4 ez => ?_)
      replace hf := bnd_s hf ez
      clear ez
      refine va_put (D := D) (ci := 8) (v := .int (Int32.ofInt z4)) (ty := .int) (C := RX8) (T := TX8) (N := 9) hx hb hts inX11_forget_X8 tyX8 tyX8_ok nmX8 hown hK hP hD hS 1 rfl rfl 5 (by decide) (hts _ mwX11_forget_3) (fun _ h9 => h9) rfl (by decide +kernel) rfl rfl (Nat.le_of_ble_eq_true rfl) dX11_forget_30 (fun H locs hP hD hS => ?_)
      have hP : va_P D vwCl [(a_p0, .inr (11, [.ref a_p0_rules, .ref a_p0_state, .ref a_p0_tape, .ref a_p0_reader, .ref a_p0_kitchen, .ref a_p0_luck, .ref a_p0_plans, .ref a_p0_coups, .ref a_p0_past, .ref a_p0_fairDays, .ref a_p0_images, .ref a_p0_imageHeld, .ref a_p0_sheets, .int (Int32.ofInt i_p0_latestFault), .int (Int32.ofInt i_p0_latestTear)])), (a_p0_state, .inr (8, [.ref a_p0_state_pieces, .ref a_p0_state_friends, .ref a_p0_state_spoons, .ref a_p0_state_eaten, .ref a_p0_state_seen, .int (Int32.ofInt z4), .int (Int32.ofInt i_p0_state_bone), .int (Int32.ofInt i_p0_state_king), .int (Int32.ofInt i_p0_state_days)]))] H := hP
      have hD : va_D A [(a_p0, .inr (11, [.ref a_p0_rules, .ref a_p0_state, .ref a_p0_tape, .ref a_p0_reader, .ref a_p0_kitchen, .ref a_p0_luck, .ref a_p0_plans, .ref a_p0_coups, .ref a_p0_past, .ref a_p0_fairDays, .ref a_p0_images, .ref a_p0_imageHeld, .ref a_p0_sheets, .int (Int32.ofInt i_p0_latestFault), .int (Int32.ofInt i_p0_latestTear)])), (a_p0_state, .inr (8, [.ref a_p0_state_pieces, .ref a_p0_state_friends, .ref a_p0_state_spoons, .ref a_p0_state_eaten, .ref a_p0_state_seen, .int (Int32.ofInt z4), .int (Int32.ofInt i_p0_state_bone), .int (Int32.ofInt i_p0_state_king), .int (Int32.ofInt i_p0_state_days)]))] := hD
      refine lv_iload_n hx hb dX11_forget_33 rfl (lv_at hl 0 rfl) ?_
      obtain ⟨rfl, rfl⟩ := ou2 hf
      rw [hQ]
      exact W.iret hx hb hr (fun t ht hW => ⟨⟨_, (), rfl, rfl, by rw [ht]; exact hP, va_K.moved hW.alike hK, hD⟩, hS.F ht⟩) hS.2.2 dX11_forget_34
    ·
      replace hf := ite_f (fun h9 => cc ((z_le hr0 hr1).mpr h9)) hf
      clear cc
      refine lv_iconst (v := Int32.ofInt (-1 : Int)) hx hb dX11_forget_15 (by decide) ?_
      obtain ⟨rfl, rfl⟩ := ou2 hf
      rw [hQ]
      exact W.iret hx hb hr (fun t ht hW => ⟨⟨_, (), rfl, rfl, by rw [ht]; exact hP, va_K.moved hW.alike hK, hD⟩, hS.F ht⟩) hS.2.2 dX11_forget_16

noncomputable def f_X11_histories (i_p0_rules_seats : Int) (i_p0_rules_stirs : Int) (v_p0_rules_after : (Int → Int)) (i_p0_state_seenDays : Int) (i_p0_state_bone : Int) (i_p0_state_king : Int) (v_p0_state_friends : (Int → Int)) (v_p0_state_seen : (Int → Int)) (v_p0_kitchen_places : (Int → Int)) (v_p0_kitchen_holders : (Int → Int)) (v_p0_past_fitting : (Int → Int)) (x1 : Int) : Option (Int × (Int → Int) × (Int → Int) × (Int → Int)) := (bd1 (f_X11_isRowQuestion x1 (6 : Int)) (fun (z1 : Int) => (ck (z_r32 z1) (if z1 = (0 : Int) then (some ((-1 : Int), v_p0_kitchen_places, v_p0_kitchen_holders, v_p0_past_fitting)) else (ck (z_r32 x1) (if x1 = (0 : Int) then (bd4 (f_X4_howMany i_p0_rules_seats i_p0_rules_stirs v_p0_rules_after i_p0_state_seenDays i_p0_state_bone i_p0_state_king v_p0_state_friends v_p0_state_seen v_p0_kitchen_places v_p0_kitchen_holders v_p0_past_fitting) (fun (z8 : Int) (w9 : (Int → Int)) (w10 : (Int → Int)) (w11 : (Int → Int)) => (some (z8, w9, w10, w11)))) else (bd4 (f_X4_firstStirOfDay i_p0_rules_seats i_p0_rules_stirs v_p0_rules_after i_p0_state_seenDays i_p0_state_bone i_p0_state_king v_p0_state_friends v_p0_state_seen v_p0_kitchen_places v_p0_kitchen_holders v_p0_past_fitting (x1 - (10 : Int))) (fun (z4 : Int) (w5 : (Int → Int)) (w6 : (Int → Int)) (w7 : (Int → Int)) => (some (z4, w5, w6, w7))))))))))
abbrev rm_X11_histories : Room := { frames := 5, cells := 0, slots := 0, locals := 120 }
theorem inX11_histories_X11 : ∀ w ∈ wsX110, w ∈ wsX11_histories := by decide +kernel
theorem mwX11_histories_1 : Cond.fieldLink RX11 74 "LadleKings" "past" "LLadleKings$Past;" ∈ wsX11_histories := by decide +kernel
set_option maxHeartbeats 8000000 in
set_option maxRecDepth 100000 in
theorem c_X11_histories (l : Launch) (D : va_G) (G : Nat → ClassId) (sz : Nat) (a_p0 : Nat) (a_p0_rules : Nat) (a_p0_state : Nat) (a_p0_tape : Nat) (a_p0_reader : Nat) (a_p0_kitchen : Nat) (a_p0_luck : Nat) (a_p0_plans : Nat) (a_p0_coups : Nat) (a_p0_past : Nat) (a_p0_fairDays : Nat) (a_p0_images : Nat) (a_p0_imageHeld : Nat) (a_p0_sheets : Nat) (a_p0_rules_need : Nat) (a_p0_rules_kind : Nat) (a_p0_rules_first : Nat) (a_p0_rules_second : Nat) (a_p0_rules_after : Nat) (a_p0_state_pieces : Nat) (a_p0_state_friends : Nat) (a_p0_state_spoons : Nat) (a_p0_state_eaten : Nat) (a_p0_state_seen : Nat) (a_p0_kitchen_places : Nat) (a_p0_kitchen_holders : Nat) (a_p0_kitchen_stirred : Nat) (a_p0_past_fitting : Nat) (i_p0_latestFault : Int) (i_p0_latestTear : Int) (i_p0_rules_seats : Int) (i_p0_rules_stirs : Int) (v_p0_rules_after : (Int → Int)) (i_p0_state_seenDays : Int) (i_p0_state_bone : Int) (i_p0_state_king : Int) (i_p0_state_days : Int) (v_p0_state_friends : (Int → Int)) (v_p0_state_seen : (Int → Int)) (v_p0_kitchen_places : (Int → Int)) (v_p0_kitchen_holders : (Int → Int)) (v_p0_past_fitting : (Int → Int)) (x1 : Int) (r : Int) (o_v_p0_kitchen_places : (Int → Int)) (o_v_p0_kitchen_holders : (Int → Int)) (o_v_p0_past_fitting : (Int → Int)) (hf : f_X11_histories i_p0_rules_seats i_p0_rules_stirs v_p0_rules_after i_p0_state_seenDays i_p0_state_bone i_p0_state_king v_p0_state_friends v_p0_state_seen v_p0_kitchen_places v_p0_kitchen_holders v_p0_past_fitting x1 = some (r, o_v_p0_kitchen_places, o_v_p0_kitchen_holders, o_v_p0_past_fitting)) : Met l yX11_histories wsX11_histories rm_X11_histories (pcG D G [.ref a_p0, .int (Int32.ofInt x1)] sz [(a_p0, .inr (11, [.ref a_p0_rules, .ref a_p0_state, .ref a_p0_tape, .ref a_p0_reader, .ref a_p0_kitchen, .ref a_p0_luck, .ref a_p0_plans, .ref a_p0_coups, .ref a_p0_past, .ref a_p0_fairDays, .ref a_p0_images, .ref a_p0_imageHeld, .ref a_p0_sheets, .int (Int32.ofInt i_p0_latestFault), .int (Int32.ofInt i_p0_latestTear)])), (a_p0_rules, .inr (6, [.int (Int32.ofInt i_p0_rules_seats), .int (Int32.ofInt i_p0_rules_stirs), .ref a_p0_rules_need, .ref a_p0_rules_kind, .ref a_p0_rules_first, .ref a_p0_rules_second, .ref a_p0_rules_after])), (a_p0_rules_after, .inl (G 1, 35, .inl (zA v_p0_rules_after))), (a_p0_state, .inr (8, [.ref a_p0_state_pieces, .ref a_p0_state_friends, .ref a_p0_state_spoons, .ref a_p0_state_eaten, .ref a_p0_state_seen, .int (Int32.ofInt i_p0_state_seenDays), .int (Int32.ofInt i_p0_state_bone), .int (Int32.ofInt i_p0_state_king), .int (Int32.ofInt i_p0_state_days)])), (a_p0_state_friends, .inl (G 1, 7, .inl (zA v_p0_state_friends))), (a_p0_state_seen, .inl (G 1, 6, .inl (zA v_p0_state_seen))), (a_p0_kitchen, .inr (2, [.ref a_p0_rules, .ref a_p0_state, .ref a_p0_kitchen_places, .ref a_p0_kitchen_holders, .ref a_p0_kitchen_stirred])), (a_p0_kitchen_places, .inl (G 1, 49, .inl (zA v_p0_kitchen_places))), (a_p0_kitchen_holders, .inl (G 1, 49, .inl (zA v_p0_kitchen_holders))), (a_p0_past, .inr (4, [.ref a_p0_kitchen, .ref a_p0_past_fitting])), (a_p0_past_fitting, .inl (G 1, 6, .inl (zA v_p0_past_fitting)))]) (qcI D G (Int32.ofInt r) [(a_p0, .inr (11, [.ref a_p0_rules, .ref a_p0_state, .ref a_p0_tape, .ref a_p0_reader, .ref a_p0_kitchen, .ref a_p0_luck, .ref a_p0_plans, .ref a_p0_coups, .ref a_p0_past, .ref a_p0_fairDays, .ref a_p0_images, .ref a_p0_imageHeld, .ref a_p0_sheets, .int (Int32.ofInt i_p0_latestFault), .int (Int32.ofInt i_p0_latestTear)])), (a_p0_rules, .inr (6, [.int (Int32.ofInt i_p0_rules_seats), .int (Int32.ofInt i_p0_rules_stirs), .ref a_p0_rules_need, .ref a_p0_rules_kind, .ref a_p0_rules_first, .ref a_p0_rules_second, .ref a_p0_rules_after])), (a_p0_rules_after, .inl (G 1, 35, .inl (zA v_p0_rules_after))), (a_p0_state, .inr (8, [.ref a_p0_state_pieces, .ref a_p0_state_friends, .ref a_p0_state_spoons, .ref a_p0_state_eaten, .ref a_p0_state_seen, .int (Int32.ofInt i_p0_state_seenDays), .int (Int32.ofInt i_p0_state_bone), .int (Int32.ofInt i_p0_state_king), .int (Int32.ofInt i_p0_state_days)])), (a_p0_state_friends, .inl (G 1, 7, .inl (zA v_p0_state_friends))), (a_p0_state_seen, .inl (G 1, 6, .inl (zA v_p0_state_seen))), (a_p0_kitchen, .inr (2, [.ref a_p0_rules, .ref a_p0_state, .ref a_p0_kitchen_places, .ref a_p0_kitchen_holders, .ref a_p0_kitchen_stirred])), (a_p0_kitchen_places, .inl (G 1, 49, .inl (zA o_v_p0_kitchen_places))), (a_p0_kitchen_holders, .inl (G 1, 49, .inl (zA o_v_p0_kitchen_holders))), (a_p0_past, .inr (4, [.ref a_p0_kitchen, .ref a_p0_past_fitting])), (a_p0_past_fitting, .inl (G 1, 6, .inl (zA o_v_p0_past_fitting)))] (va_A [(a_p0, .inr (11, [.ref a_p0_rules, .ref a_p0_state, .ref a_p0_tape, .ref a_p0_reader, .ref a_p0_kitchen, .ref a_p0_luck, .ref a_p0_plans, .ref a_p0_coups, .ref a_p0_past, .ref a_p0_fairDays, .ref a_p0_images, .ref a_p0_imageHeld, .ref a_p0_sheets, .int (Int32.ofInt i_p0_latestFault), .int (Int32.ofInt i_p0_latestTear)])), (a_p0_rules, .inr (6, [.int (Int32.ofInt i_p0_rules_seats), .int (Int32.ofInt i_p0_rules_stirs), .ref a_p0_rules_need, .ref a_p0_rules_kind, .ref a_p0_rules_first, .ref a_p0_rules_second, .ref a_p0_rules_after])), (a_p0_rules_after, .inl (G 1, 35, .inl (zA v_p0_rules_after))), (a_p0_state, .inr (8, [.ref a_p0_state_pieces, .ref a_p0_state_friends, .ref a_p0_state_spoons, .ref a_p0_state_eaten, .ref a_p0_state_seen, .int (Int32.ofInt i_p0_state_seenDays), .int (Int32.ofInt i_p0_state_bone), .int (Int32.ofInt i_p0_state_king), .int (Int32.ofInt i_p0_state_days)])), (a_p0_state_friends, .inl (G 1, 7, .inl (zA v_p0_state_friends))), (a_p0_state_seen, .inl (G 1, 6, .inl (zA v_p0_state_seen))), (a_p0_kitchen, .inr (2, [.ref a_p0_rules, .ref a_p0_state, .ref a_p0_kitchen_places, .ref a_p0_kitchen_holders, .ref a_p0_kitchen_stirred])), (a_p0_kitchen_places, .inl (G 1, 49, .inl (zA v_p0_kitchen_places))), (a_p0_kitchen_holders, .inl (G 1, 49, .inl (zA v_p0_kitchen_holders))), (a_p0_past, .inr (4, [.ref a_p0_kitchen, .ref a_p0_past_fitting])), (a_p0_past_fitting, .inl (G 1, 6, .inl (zA v_p0_past_fitting)))] sz)) 0 0 (va_A [(a_p0, .inr (11, [.ref a_p0_rules, .ref a_p0_state, .ref a_p0_tape, .ref a_p0_reader, .ref a_p0_kitchen, .ref a_p0_luck, .ref a_p0_plans, .ref a_p0_coups, .ref a_p0_past, .ref a_p0_fairDays, .ref a_p0_images, .ref a_p0_imageHeld, .ref a_p0_sheets, .int (Int32.ofInt i_p0_latestFault), .int (Int32.ofInt i_p0_latestTear)])), (a_p0_rules, .inr (6, [.int (Int32.ofInt i_p0_rules_seats), .int (Int32.ofInt i_p0_rules_stirs), .ref a_p0_rules_need, .ref a_p0_rules_kind, .ref a_p0_rules_first, .ref a_p0_rules_second, .ref a_p0_rules_after])), (a_p0_rules_after, .inl (G 1, 35, .inl (zA v_p0_rules_after))), (a_p0_state, .inr (8, [.ref a_p0_state_pieces, .ref a_p0_state_friends, .ref a_p0_state_spoons, .ref a_p0_state_eaten, .ref a_p0_state_seen, .int (Int32.ofInt i_p0_state_seenDays), .int (Int32.ofInt i_p0_state_bone), .int (Int32.ofInt i_p0_state_king), .int (Int32.ofInt i_p0_state_days)])), (a_p0_state_friends, .inl (G 1, 7, .inl (zA v_p0_state_friends))), (a_p0_state_seen, .inl (G 1, 6, .inl (zA v_p0_state_seen))), (a_p0_kitchen, .inr (2, [.ref a_p0_rules, .ref a_p0_state, .ref a_p0_kitchen_places, .ref a_p0_kitchen_holders, .ref a_p0_kitchen_stirred])), (a_p0_kitchen_places, .inl (G 1, 49, .inl (zA v_p0_kitchen_places))), (a_p0_kitchen_holders, .inl (G 1, 49, .inl (zA v_p0_kitchen_holders))), (a_p0_past, .inr (4, [.ref a_p0_kitchen, .ref a_p0_past_fitting])), (a_p0_past_fitting, .inl (G 1, 6, .inl (zA v_p0_past_fitting)))] sz) := by
  refine Met.ofW (cc := cX11_histories) (maxL := 2) (ret := (some .int)) (by decide) rfl ?_
  intro p e s m args below meth c s₁ B hml hv
  obtain ⟨rfl, hsz, hP, hK, hD0⟩ := hv
  have hx := B.exec
  have hb := B.bytes
  have hr := B.returns
  have hts := atoms_spec (ws := wsX11_histories) B.pre
  have hown : s.vm.findClass RX11 = some m.cls := findClass_of_methodNamed B.named
  have hlocks := B.notSynchronized
  subst hsz
  have hD := hD0.self (sz := s.heap.size)
  generalize hAe : va_A [(a_p0, .inr (11, [.ref a_p0_rules, .ref a_p0_state, .ref a_p0_tape, .ref a_p0_reader, .ref a_p0_kitchen, .ref a_p0_luck, .ref a_p0_plans, .ref a_p0_coups, .ref a_p0_past, .ref a_p0_fairDays, .ref a_p0_images, .ref a_p0_imageHeld, .ref a_p0_sheets, .int (Int32.ofInt i_p0_latestFault), .int (Int32.ofInt i_p0_latestTear)])), (a_p0_rules, .inr (6, [.int (Int32.ofInt i_p0_rules_seats), .int (Int32.ofInt i_p0_rules_stirs), .ref a_p0_rules_need, .ref a_p0_rules_kind, .ref a_p0_rules_first, .ref a_p0_rules_second, .ref a_p0_rules_after])), (a_p0_rules_after, .inl (G 1, 35, .inl (zA v_p0_rules_after))), (a_p0_state, .inr (8, [.ref a_p0_state_pieces, .ref a_p0_state_friends, .ref a_p0_state_spoons, .ref a_p0_state_eaten, .ref a_p0_state_seen, .int (Int32.ofInt i_p0_state_seenDays), .int (Int32.ofInt i_p0_state_bone), .int (Int32.ofInt i_p0_state_king), .int (Int32.ofInt i_p0_state_days)])), (a_p0_state_friends, .inl (G 1, 7, .inl (zA v_p0_state_friends))), (a_p0_state_seen, .inl (G 1, 6, .inl (zA v_p0_state_seen))), (a_p0_kitchen, .inr (2, [.ref a_p0_rules, .ref a_p0_state, .ref a_p0_kitchen_places, .ref a_p0_kitchen_holders, .ref a_p0_kitchen_stirred])), (a_p0_kitchen_places, .inl (G 1, 49, .inl (zA v_p0_kitchen_places))), (a_p0_kitchen_holders, .inl (G 1, 49, .inl (zA v_p0_kitchen_holders))), (a_p0_past, .inr (4, [.ref a_p0_kitchen, .ref a_p0_past_fitting])), (a_p0_past_fitting, .inl (G 1, 6, .inl (zA v_p0_past_fitting)))] s.heap.size = A at hD ⊢
  have hA : ∀ q : Nat, s.heap.size ≤ q → A q := fun q h => by rw [← hAe]; exact Or.inr h
  clear hAe hD0
  have hS : va_S A s.heap s.heap [] := va_S.rf
  have hl := lv_entry ([.ref a_p0, .int (Int32.ofInt x1)]) (n := 2) (Nat.le_of_ble_eq_true rfl)
  rw [lg_entry_eq]
  generalize (lg_sl ([.ref a_p0, .int (Int32.ofInt x1)]) ++ List.replicate (2 - (lg_sl ([.ref a_p0, .int (Int32.ofInt x1)])).length) Slot.unset).toArray = ls at hl ⊢
  have hl : lv_has ls 2 [(0, .ref a_p0), (1, .int (Int32.ofInt x1))] := hl
  refine W_nameQ (fun Q hQ => ?_)
  obtain ⟨H, hH⟩ : ∃ H, H = s.heap := ⟨_, rfl⟩
  replace hS : va_S A s.heap H [] := by rw [hH]; exact hS
  replace hP : va_P D vwCl [(a_p0, .inr (11, [.ref a_p0_rules, .ref a_p0_state, .ref a_p0_tape, .ref a_p0_reader, .ref a_p0_kitchen, .ref a_p0_luck, .ref a_p0_plans, .ref a_p0_coups, .ref a_p0_past, .ref a_p0_fairDays, .ref a_p0_images, .ref a_p0_imageHeld, .ref a_p0_sheets, .int (Int32.ofInt i_p0_latestFault), .int (Int32.ofInt i_p0_latestTear)])), (a_p0_rules, .inr (6, [.int (Int32.ofInt i_p0_rules_seats), .int (Int32.ofInt i_p0_rules_stirs), .ref a_p0_rules_need, .ref a_p0_rules_kind, .ref a_p0_rules_first, .ref a_p0_rules_second, .ref a_p0_rules_after])), (a_p0_rules_after, .inl (G 1, 35, .inl (zA v_p0_rules_after))), (a_p0_state, .inr (8, [.ref a_p0_state_pieces, .ref a_p0_state_friends, .ref a_p0_state_spoons, .ref a_p0_state_eaten, .ref a_p0_state_seen, .int (Int32.ofInt i_p0_state_seenDays), .int (Int32.ofInt i_p0_state_bone), .int (Int32.ofInt i_p0_state_king), .int (Int32.ofInt i_p0_state_days)])), (a_p0_state_friends, .inl (G 1, 7, .inl (zA v_p0_state_friends))), (a_p0_state_seen, .inl (G 1, 6, .inl (zA v_p0_state_seen))), (a_p0_kitchen, .inr (2, [.ref a_p0_rules, .ref a_p0_state, .ref a_p0_kitchen_places, .ref a_p0_kitchen_holders, .ref a_p0_kitchen_stirred])), (a_p0_kitchen_places, .inl (G 1, 49, .inl (zA v_p0_kitchen_places))), (a_p0_kitchen_holders, .inl (G 1, 49, .inl (zA v_p0_kitchen_holders))), (a_p0_past, .inr (4, [.ref a_p0_kitchen, .ref a_p0_past_fitting])), (a_p0_past_fitting, .inl (G 1, 6, .inl (zA v_p0_past_fitting)))] H := by rw [hH]; exact hP
  rw [← hH]
  clear hH
  unfold f_X11_histories at hf
  refine lv_iload_n hx hb dX11_histories_0 rfl (lv_at hl 1 rfl) ?_
  refine lv_bipush (v := Int32.ofInt (6 : Int)) hx hb dX11_histories_1 (by decide) ?_
  have hq := bd1_s hf
  clear hf
  obtain ⟨z1, hcall, hf⟩ := hq
  refine gcI (ws' := [(a_p0, .inr (11, [.ref a_p0_rules, .ref a_p0_state, .ref a_p0_tape, .ref a_p0_reader, .ref a_p0_kitchen, .ref a_p0_luck, .ref a_p0_plans, .ref a_p0_coups, .ref a_p0_past, .ref a_p0_fairDays, .ref a_p0_images, .ref a_p0_imageHeld, .ref a_p0_sheets, .int (Int32.ofInt i_p0_latestFault), .int (Int32.ofInt i_p0_latestTear)])), (a_p0_rules, .inr (6, [.int (Int32.ofInt i_p0_rules_seats), .int (Int32.ofInt i_p0_rules_stirs), .ref a_p0_rules_need, .ref a_p0_rules_kind, .ref a_p0_rules_first, .ref a_p0_rules_second, .ref a_p0_rules_after])), (a_p0_rules_after, .inl (G 1, 35, .inl (zA v_p0_rules_after))), (a_p0_state, .inr (8, [.ref a_p0_state_pieces, .ref a_p0_state_friends, .ref a_p0_state_spoons, .ref a_p0_state_eaten, .ref a_p0_state_seen, .int (Int32.ofInt i_p0_state_seenDays), .int (Int32.ofInt i_p0_state_bone), .int (Int32.ofInt i_p0_state_king), .int (Int32.ofInt i_p0_state_days)])), (a_p0_state_friends, .inl (G 1, 7, .inl (zA v_p0_state_friends))), (a_p0_state_seen, .inl (G 1, 6, .inl (zA v_p0_state_seen))), (a_p0_kitchen, .inr (2, [.ref a_p0_rules, .ref a_p0_state, .ref a_p0_kitchen_places, .ref a_p0_kitchen_holders, .ref a_p0_kitchen_stirred])), (a_p0_kitchen_places, .inl (G 1, 49, .inl (zA v_p0_kitchen_places))), (a_p0_kitchen_holders, .inl (G 1, 49, .inl (zA v_p0_kitchen_holders))), (a_p0_past, .inr (4, [.ref a_p0_kitchen, .ref a_p0_past_fitting])), (a_p0_past_fitting, .inl (G 1, 6, .inl (zA v_p0_past_fitting)))]) (va_runS (As := [.int (Int32.ofInt x1), .int (Int32.ofInt (6 : Int))]) (rest := []) ⟨hx, hb, hml, hown, hts⟩ (c_X11_isRowQuestion (l := l) (D := D) (G := G) (sz := H.size) (x0 := x1) (x1 := (6 : Int)) (r := z1) (hf := hcall)) (va_cwS 2 hts gX11_histories_X11_isRowQuestion rfl rfl rfl (by decide +kernel) ⟨Nat.le_of_ble_eq_true rfl, Nat.le_of_ble_eq_true rfl⟩) (preG_S (hP.sub [] rfl) (hD.sub [] rfl rfl) hK) rfl rfl hl.1 rfl (lv_room (Nat.le_of_ble_eq_true rfl)) dX11_histories_3 ⟨Nat.le_of_ble_eq_true rfl, Nat.le_of_ble_eq_true rfl⟩) hP hD hS hA [] [0, 1, 2, 3, 4, 5, 6, 7, 8, 9, 10] [0, 1, 2, 3, 4, 5, 6, 7, 8, 9, 10] rfl rfl rfl (by decide) rfl rfl rfl (fun H locs hP hD hS => ?_)
  clear hcall
  have hr1 := ck_c hf
  replace hf := ck_r hf
  refine lv_if_ne (tgt := 11) hx hb dX11_histories_6 (by decide) (fun cc => ?_) (fun cc => ?_)
  ·
    replace hf := ite_f (fun h9 => cc ((z_eq0 hr1).mpr h9)) hf
    clear cc
    refine lv_iload_n hx hb dX11_histories_11 rfl (lv_at hl 1 rfl) ?_
    have hr2 := ck_c hf
    replace hf := ck_r hf
    refine lv_if_ne (tgt := 25) hx hb dX11_histories_12 (by decide) (fun cc => ?_) (fun cc => ?_)
    ·
      replace hf := ite_f (fun h9 => cc ((z_eq0 hr2).mpr h9)) hf
      clear cc
      refine lv_aload_n hx hb dX11_histories_25 rfl (lv_at hl 0 rfl) ?_
      refine va_get (D := D) (ci := 11) (v := .ref a_p0_past) (C := RX11) (T := TX11) (N := 15) hx hb hts inX11_histories_X11 hown hK hP 0 rfl rfl 8 (by decide) (hts _ mwX11_histories_1) (fun _ h9 => h9) rfl dX11_histories_26 ?_
      refine lv_iload_n hx hb dX11_histories_29 rfl (lv_at hl 1 rfl) ?_
      refine lv_bipush (v := Int32.ofInt (10 : Int)) hx hb dX11_histories_30 (by decide) ?_
      refine lv_isub hx hb dX11_histories_32 (z_ci (Int32.ofInt_sub x1 (10 : Int)) ?_)
      have hq := bd4_s hf
      clear hf
      obtain ⟨z4, w5, w6, w7, hcall, hf⟩ := hq
      refine gcI (ws' := [(a_p0, .inr (11, [.ref a_p0_rules, .ref a_p0_state, .ref a_p0_tape, .ref a_p0_reader, .ref a_p0_kitchen, .ref a_p0_luck, .ref a_p0_plans, .ref a_p0_coups, .ref a_p0_past, .ref a_p0_fairDays, .ref a_p0_images, .ref a_p0_imageHeld, .ref a_p0_sheets, .int (Int32.ofInt i_p0_latestFault), .int (Int32.ofInt i_p0_latestTear)])), (a_p0_rules, .inr (6, [.int (Int32.ofInt i_p0_rules_seats), .int (Int32.ofInt i_p0_rules_stirs), .ref a_p0_rules_need, .ref a_p0_rules_kind, .ref a_p0_rules_first, .ref a_p0_rules_second, .ref a_p0_rules_after])), (a_p0_rules_after, .inl (G 1, 35, .inl (zA v_p0_rules_after))), (a_p0_state, .inr (8, [.ref a_p0_state_pieces, .ref a_p0_state_friends, .ref a_p0_state_spoons, .ref a_p0_state_eaten, .ref a_p0_state_seen, .int (Int32.ofInt i_p0_state_seenDays), .int (Int32.ofInt i_p0_state_bone), .int (Int32.ofInt i_p0_state_king), .int (Int32.ofInt i_p0_state_days)])), (a_p0_state_friends, .inl (G 1, 7, .inl (zA v_p0_state_friends))), (a_p0_state_seen, .inl (G 1, 6, .inl (zA v_p0_state_seen))), (a_p0_kitchen, .inr (2, [.ref a_p0_rules, .ref a_p0_state, .ref a_p0_kitchen_places, .ref a_p0_kitchen_holders, .ref a_p0_kitchen_stirred])), (a_p0_kitchen_places, .inl (G 1, 49, .inl (zA w5))), (a_p0_kitchen_holders, .inl (G 1, 49, .inl (zA w6))), (a_p0_past, .inr (4, [.ref a_p0_kitchen, .ref a_p0_past_fitting])), (a_p0_past_fitting, .inl (G 1, 6, .inl (zA w7)))]) (va_runV (As := [.int (Int32.ofInt (x1 - (10 : Int)))]) (rest := []) ⟨hx, hb, hml, hown, hts⟩ (c_X4_firstStirOfDay (l := l) (D := D) (G := G) (sz := H.size) (a_p0 := a_p0_past) (a_p0_kitchen := a_p0_kitchen) (a_p0_fitting := a_p0_past_fitting) (a_p0_kitchen_rules := a_p0_rules) (a_p0_kitchen_state := a_p0_state) (a_p0_kitchen_places := a_p0_kitchen_places) (a_p0_kitchen_holders := a_p0_kitchen_holders) (a_p0_kitchen_stirred := a_p0_kitchen_stirred) (a_p0_kitchen_rules_need := a_p0_rules_need) (a_p0_kitchen_rules_kind := a_p0_rules_kind) (a_p0_kitchen_rules_first := a_p0_rules_first) (a_p0_kitchen_rules_second := a_p0_rules_second) (a_p0_kitchen_rules_after := a_p0_rules_after) (a_p0_kitchen_state_pieces := a_p0_state_pieces) (a_p0_kitchen_state_friends := a_p0_state_friends) (a_p0_kitchen_state_spoons := a_p0_state_spoons) (a_p0_kitchen_state_eaten := a_p0_state_eaten) (a_p0_kitchen_state_seen := a_p0_state_seen) (i_p0_kitchen_rules_seats := i_p0_rules_seats) (i_p0_kitchen_rules_stirs := i_p0_rules_stirs) (v_p0_kitchen_rules_after := v_p0_rules_after) (i_p0_kitchen_state_seenDays := i_p0_state_seenDays) (i_p0_kitchen_state_bone := i_p0_state_bone) (i_p0_kitchen_state_king := i_p0_state_king) (i_p0_kitchen_state_days := i_p0_state_days) (v_p0_kitchen_state_friends := v_p0_state_friends) (v_p0_kitchen_state_seen := v_p0_state_seen) (v_p0_kitchen_places := v_p0_kitchen_places) (v_p0_kitchen_holders := v_p0_kitchen_holders) (v_p0_fitting := v_p0_past_fitting) (x1 := (x1 - (10 : Int))) (r := z4) (o_v_p0_kitchen_places := w5) (o_v_p0_kitchen_holders := w6) (o_v_p0_fitting := w7) (hf := hcall)) (cwV 1 hts gX11_histories_X4_firstStirOfDay rfl rfl rfl (by decide +kernel) ⟨Nat.le_of_ble_eq_true rfl, Nat.le_of_ble_eq_true rfl⟩) (preG_V (ci := 4) (hP.sub [9, 6, 1, 2, 3, 4, 5, 7, 8, 10] rfl) (hD.sub [9, 6, 1, 2, 3, 4, 5, 7, 8, 10] rfl rfl) hK rfl rfl) rfl rfl hl.1 rfl (lv_room (Nat.le_of_ble_eq_true rfl)) dX11_histories_33 ⟨Nat.le_of_ble_eq_true rfl, Nat.le_of_ble_eq_true rfl⟩) hP hD hS hA [9, 6, 1, 2, 3, 4, 5, 7, 8, 10] [0] [0, 3, 4, 5, 6, 7, 2, 8, 9, 1, 10] rfl rfl rfl (by decide) rfl rfl rfl (fun H locs hP hD hS => ?_)
      clear hcall
      obtain ⟨rfl, rfl, rfl, rfl⟩ := ou4 hf
      rw [hQ]
      exact W.iret hx hb hr (fun t ht hW => ⟨⟨_, (), rfl, rfl, by rw [ht]; exact hP, va_K.moved hW.alike hK, hD⟩, hS.F ht⟩) hS.2.2 dX11_histories_36
    ·
      replace hf := ite_t ((z_eq0 hr2).mp cc) hf
      clear cc
      refine lv_aload_n hx hb dX11_histories_15 rfl (lv_at hl 0 rfl) ?_
      refine va_get (D := D) (ci := 11) (v := .ref a_p0_past) (C := RX11) (T := TX11) (N := 15) hx hb hts inX11_histories_X11 hown hK hP 0 rfl rfl 8 (by decide) (hts _ mwX11_histories_1) (fun _ h9 => h9) rfl dX11_histories_16 ?_
      have hq := bd4_s hf
      clear hf
      obtain ⟨z8, w9, w10, w11, hcall, hf⟩ := hq
      refine gcI (ws' := [(a_p0, .inr (11, [.ref a_p0_rules, .ref a_p0_state, .ref a_p0_tape, .ref a_p0_reader, .ref a_p0_kitchen, .ref a_p0_luck, .ref a_p0_plans, .ref a_p0_coups, .ref a_p0_past, .ref a_p0_fairDays, .ref a_p0_images, .ref a_p0_imageHeld, .ref a_p0_sheets, .int (Int32.ofInt i_p0_latestFault), .int (Int32.ofInt i_p0_latestTear)])), (a_p0_rules, .inr (6, [.int (Int32.ofInt i_p0_rules_seats), .int (Int32.ofInt i_p0_rules_stirs), .ref a_p0_rules_need, .ref a_p0_rules_kind, .ref a_p0_rules_first, .ref a_p0_rules_second, .ref a_p0_rules_after])), (a_p0_rules_after, .inl (G 1, 35, .inl (zA v_p0_rules_after))), (a_p0_state, .inr (8, [.ref a_p0_state_pieces, .ref a_p0_state_friends, .ref a_p0_state_spoons, .ref a_p0_state_eaten, .ref a_p0_state_seen, .int (Int32.ofInt i_p0_state_seenDays), .int (Int32.ofInt i_p0_state_bone), .int (Int32.ofInt i_p0_state_king), .int (Int32.ofInt i_p0_state_days)])), (a_p0_state_friends, .inl (G 1, 7, .inl (zA v_p0_state_friends))), (a_p0_state_seen, .inl (G 1, 6, .inl (zA v_p0_state_seen))), (a_p0_kitchen, .inr (2, [.ref a_p0_rules, .ref a_p0_state, .ref a_p0_kitchen_places, .ref a_p0_kitchen_holders, .ref a_p0_kitchen_stirred])), (a_p0_kitchen_places, .inl (G 1, 49, .inl (zA w9))), (a_p0_kitchen_holders, .inl (G 1, 49, .inl (zA w10))), (a_p0_past, .inr (4, [.ref a_p0_kitchen, .ref a_p0_past_fitting])), (a_p0_past_fitting, .inl (G 1, 6, .inl (zA w11)))]) (va_runV (As := []) (rest := []) ⟨hx, hb, hml, hown, hts⟩ (c_X4_howMany (l := l) (D := D) (G := G) (sz := H.size) (a_p0 := a_p0_past) (a_p0_kitchen := a_p0_kitchen) (a_p0_fitting := a_p0_past_fitting) (a_p0_kitchen_rules := a_p0_rules) (a_p0_kitchen_state := a_p0_state) (a_p0_kitchen_places := a_p0_kitchen_places) (a_p0_kitchen_holders := a_p0_kitchen_holders) (a_p0_kitchen_stirred := a_p0_kitchen_stirred) (a_p0_kitchen_rules_need := a_p0_rules_need) (a_p0_kitchen_rules_kind := a_p0_rules_kind) (a_p0_kitchen_rules_first := a_p0_rules_first) (a_p0_kitchen_rules_second := a_p0_rules_second) (a_p0_kitchen_rules_after := a_p0_rules_after) (a_p0_kitchen_state_pieces := a_p0_state_pieces) (a_p0_kitchen_state_friends := a_p0_state_friends) (a_p0_kitchen_state_spoons := a_p0_state_spoons) (a_p0_kitchen_state_eaten := a_p0_state_eaten) (a_p0_kitchen_state_seen := a_p0_state_seen) (i_p0_kitchen_rules_seats := i_p0_rules_seats) (i_p0_kitchen_rules_stirs := i_p0_rules_stirs) (v_p0_kitchen_rules_after := v_p0_rules_after) (i_p0_kitchen_state_seenDays := i_p0_state_seenDays) (i_p0_kitchen_state_bone := i_p0_state_bone) (i_p0_kitchen_state_king := i_p0_state_king) (i_p0_kitchen_state_days := i_p0_state_days) (v_p0_kitchen_state_friends := v_p0_state_friends) (v_p0_kitchen_state_seen := v_p0_state_seen) (v_p0_kitchen_places := v_p0_kitchen_places) (v_p0_kitchen_holders := v_p0_kitchen_holders) (v_p0_fitting := v_p0_past_fitting) (r := z8) (o_v_p0_kitchen_places := w9) (o_v_p0_kitchen_holders := w10) (o_v_p0_fitting := w11) (hf := hcall)) (cwV 0 hts gX11_histories_X4_howMany rfl rfl rfl (by decide +kernel) ⟨Nat.le_of_ble_eq_true rfl, Nat.le_of_ble_eq_true rfl⟩) (preG_V (ci := 4) (hP.sub [9, 6, 1, 2, 3, 4, 5, 7, 8, 10] rfl) (hD.sub [9, 6, 1, 2, 3, 4, 5, 7, 8, 10] rfl rfl) hK rfl rfl) rfl rfl hl.1 rfl (lv_room (Nat.le_of_ble_eq_true rfl)) dX11_histories_19 ⟨Nat.le_of_ble_eq_true rfl, Nat.le_of_ble_eq_true rfl⟩) hP hD hS hA [9, 6, 1, 2, 3, 4, 5, 7, 8, 10] [0] [0, 3, 4, 5, 6, 7, 2, 8, 9, 1, 10] rfl rfl rfl (by decide) rfl rfl rfl (fun H locs hP hD hS => ?_)
      clear hcall
      refine lv_goto (tgt := 36) hx hb dX11_histories_22 (by decide) ?_
      obtain ⟨rfl, rfl, rfl, rfl⟩ := ou4 hf
      rw [hQ]
      exact W.iret hx hb hr (fun t ht hW => ⟨⟨_, (), rfl, rfl, by rw [ht]; exact hP, va_K.moved hW.alike hK, hD⟩, hS.F ht⟩) hS.2.2 dX11_histories_36
  ·
    replace hf := ite_t ((z_eq0 hr1).mp cc) hf
    clear cc
    refine lv_iconst (v := Int32.ofInt (-1 : Int)) hx hb dX11_histories_9 (by decide) ?_
    obtain ⟨rfl, rfl, rfl, rfl⟩ := ou4 hf
    rw [hQ]
    exact W.iret hx hb hr (fun t ht hW => ⟨⟨_, (), rfl, rfl, by rw [ht]; exact hP, va_K.moved hW.alike hK, hD⟩, hS.F ht⟩) hS.2.2 dX11_histories_10

noncomputable def f_X11_could (i_p0_rules_seats : Int) (i_p0_rules_stirs : Int) (v_p0_rules_after : (Int → Int)) (i_p0_state_seenDays : Int) (i_p0_state_bone : Int) (i_p0_state_king : Int) (v_p0_state_friends : (Int → Int)) (v_p0_state_seen : (Int → Int)) (v_p0_kitchen_places : (Int → Int)) (v_p0_kitchen_holders : (Int → Int)) (v_p0_past_fitting : (Int → Int)) (x1 : Int) : Option (Int × (Int → Int) × (Int → Int) × (Int → Int)) := (ck (z_r32 x1) (if x1 < (0 : Int) then (some ((-1 : Int), v_p0_kitchen_places, v_p0_kitchen_holders, v_p0_past_fitting)) else (ck (z_r32 i_p0_state_seenDays) (if x1 < i_p0_state_seenDays then (bd4 (f_X4_stirsOfDay i_p0_rules_seats i_p0_rules_stirs v_p0_rules_after i_p0_state_seenDays i_p0_state_bone i_p0_state_king v_p0_state_friends v_p0_state_seen v_p0_kitchen_places v_p0_kitchen_holders v_p0_past_fitting x1) (fun (z3 : Int) (w4 : (Int → Int)) (w5 : (Int → Int)) (w6 : (Int → Int)) => (some (z3, w4, w5, w6)))) else (some ((-1 : Int), v_p0_kitchen_places, v_p0_kitchen_holders, v_p0_past_fitting))))))
abbrev rm_X11_could : Room := { frames := 4, cells := 0, slots := 0, locals := 97 }
theorem inX11_could_X11 : ∀ w ∈ wsX110, w ∈ wsX11_could := by decide +kernel
theorem mwX11_could_1 : Cond.fieldLink RX11 19 "LadleKings" "state" "LLadleKings$State;" ∈ wsX11_could := by decide +kernel
theorem inX11_could_X8 : ∀ w ∈ wsX80, w ∈ wsX11_could := by decide +kernel
theorem mwX11_could_3 : Cond.fieldLink RX11 247 "LadleKings$State" "seenDays" "I" ∈ wsX11_could := by decide +kernel
theorem mwX11_could_4 : Cond.fieldLink RX11 74 "LadleKings" "past" "LLadleKings$Past;" ∈ wsX11_could := by decide +kernel
set_option maxHeartbeats 8000000 in
set_option maxRecDepth 100000 in
theorem c_X11_could (l : Launch) (D : va_G) (G : Nat → ClassId) (sz : Nat) (a_p0 : Nat) (a_p0_rules : Nat) (a_p0_state : Nat) (a_p0_tape : Nat) (a_p0_reader : Nat) (a_p0_kitchen : Nat) (a_p0_luck : Nat) (a_p0_plans : Nat) (a_p0_coups : Nat) (a_p0_past : Nat) (a_p0_fairDays : Nat) (a_p0_images : Nat) (a_p0_imageHeld : Nat) (a_p0_sheets : Nat) (a_p0_rules_need : Nat) (a_p0_rules_kind : Nat) (a_p0_rules_first : Nat) (a_p0_rules_second : Nat) (a_p0_rules_after : Nat) (a_p0_state_pieces : Nat) (a_p0_state_friends : Nat) (a_p0_state_spoons : Nat) (a_p0_state_eaten : Nat) (a_p0_state_seen : Nat) (a_p0_kitchen_places : Nat) (a_p0_kitchen_holders : Nat) (a_p0_kitchen_stirred : Nat) (a_p0_past_fitting : Nat) (i_p0_latestFault : Int) (i_p0_latestTear : Int) (i_p0_rules_seats : Int) (i_p0_rules_stirs : Int) (v_p0_rules_after : (Int → Int)) (i_p0_state_seenDays : Int) (i_p0_state_bone : Int) (i_p0_state_king : Int) (i_p0_state_days : Int) (v_p0_state_friends : (Int → Int)) (v_p0_state_seen : (Int → Int)) (v_p0_kitchen_places : (Int → Int)) (v_p0_kitchen_holders : (Int → Int)) (v_p0_past_fitting : (Int → Int)) (x1 : Int) (r : Int) (o_v_p0_kitchen_places : (Int → Int)) (o_v_p0_kitchen_holders : (Int → Int)) (o_v_p0_past_fitting : (Int → Int)) (hf : f_X11_could i_p0_rules_seats i_p0_rules_stirs v_p0_rules_after i_p0_state_seenDays i_p0_state_bone i_p0_state_king v_p0_state_friends v_p0_state_seen v_p0_kitchen_places v_p0_kitchen_holders v_p0_past_fitting x1 = some (r, o_v_p0_kitchen_places, o_v_p0_kitchen_holders, o_v_p0_past_fitting)) : Met l yX11_could wsX11_could rm_X11_could (pcG D G [.ref a_p0, .int (Int32.ofInt x1)] sz [(a_p0, .inr (11, [.ref a_p0_rules, .ref a_p0_state, .ref a_p0_tape, .ref a_p0_reader, .ref a_p0_kitchen, .ref a_p0_luck, .ref a_p0_plans, .ref a_p0_coups, .ref a_p0_past, .ref a_p0_fairDays, .ref a_p0_images, .ref a_p0_imageHeld, .ref a_p0_sheets, .int (Int32.ofInt i_p0_latestFault), .int (Int32.ofInt i_p0_latestTear)])), (a_p0_rules, .inr (6, [.int (Int32.ofInt i_p0_rules_seats), .int (Int32.ofInt i_p0_rules_stirs), .ref a_p0_rules_need, .ref a_p0_rules_kind, .ref a_p0_rules_first, .ref a_p0_rules_second, .ref a_p0_rules_after])), (a_p0_rules_after, .inl (G 1, 35, .inl (zA v_p0_rules_after))), (a_p0_state, .inr (8, [.ref a_p0_state_pieces, .ref a_p0_state_friends, .ref a_p0_state_spoons, .ref a_p0_state_eaten, .ref a_p0_state_seen, .int (Int32.ofInt i_p0_state_seenDays), .int (Int32.ofInt i_p0_state_bone), .int (Int32.ofInt i_p0_state_king), .int (Int32.ofInt i_p0_state_days)])), (a_p0_state_friends, .inl (G 1, 7, .inl (zA v_p0_state_friends))), (a_p0_state_seen, .inl (G 1, 6, .inl (zA v_p0_state_seen))), (a_p0_kitchen, .inr (2, [.ref a_p0_rules, .ref a_p0_state, .ref a_p0_kitchen_places, .ref a_p0_kitchen_holders, .ref a_p0_kitchen_stirred])), (a_p0_kitchen_places, .inl (G 1, 49, .inl (zA v_p0_kitchen_places))), (a_p0_kitchen_holders, .inl (G 1, 49, .inl (zA v_p0_kitchen_holders))), (a_p0_past, .inr (4, [.ref a_p0_kitchen, .ref a_p0_past_fitting])), (a_p0_past_fitting, .inl (G 1, 6, .inl (zA v_p0_past_fitting)))]) (qcI D G (Int32.ofInt r) [(a_p0, .inr (11, [.ref a_p0_rules, .ref a_p0_state, .ref a_p0_tape, .ref a_p0_reader, .ref a_p0_kitchen, .ref a_p0_luck, .ref a_p0_plans, .ref a_p0_coups, .ref a_p0_past, .ref a_p0_fairDays, .ref a_p0_images, .ref a_p0_imageHeld, .ref a_p0_sheets, .int (Int32.ofInt i_p0_latestFault), .int (Int32.ofInt i_p0_latestTear)])), (a_p0_rules, .inr (6, [.int (Int32.ofInt i_p0_rules_seats), .int (Int32.ofInt i_p0_rules_stirs), .ref a_p0_rules_need, .ref a_p0_rules_kind, .ref a_p0_rules_first, .ref a_p0_rules_second, .ref a_p0_rules_after])), (a_p0_rules_after, .inl (G 1, 35, .inl (zA v_p0_rules_after))), (a_p0_state, .inr (8, [.ref a_p0_state_pieces, .ref a_p0_state_friends, .ref a_p0_state_spoons, .ref a_p0_state_eaten, .ref a_p0_state_seen, .int (Int32.ofInt i_p0_state_seenDays), .int (Int32.ofInt i_p0_state_bone), .int (Int32.ofInt i_p0_state_king), .int (Int32.ofInt i_p0_state_days)])), (a_p0_state_friends, .inl (G 1, 7, .inl (zA v_p0_state_friends))), (a_p0_state_seen, .inl (G 1, 6, .inl (zA v_p0_state_seen))), (a_p0_kitchen, .inr (2, [.ref a_p0_rules, .ref a_p0_state, .ref a_p0_kitchen_places, .ref a_p0_kitchen_holders, .ref a_p0_kitchen_stirred])), (a_p0_kitchen_places, .inl (G 1, 49, .inl (zA o_v_p0_kitchen_places))), (a_p0_kitchen_holders, .inl (G 1, 49, .inl (zA o_v_p0_kitchen_holders))), (a_p0_past, .inr (4, [.ref a_p0_kitchen, .ref a_p0_past_fitting])), (a_p0_past_fitting, .inl (G 1, 6, .inl (zA o_v_p0_past_fitting)))] (va_A [(a_p0, .inr (11, [.ref a_p0_rules, .ref a_p0_state, .ref a_p0_tape, .ref a_p0_reader, .ref a_p0_kitchen, .ref a_p0_luck, .ref a_p0_plans, .ref a_p0_coups, .ref a_p0_past, .ref a_p0_fairDays, .ref a_p0_images, .ref a_p0_imageHeld, .ref a_p0_sheets, .int (Int32.ofInt i_p0_latestFault), .int (Int32.ofInt i_p0_latestTear)])), (a_p0_rules, .inr (6, [.int (Int32.ofInt i_p0_rules_seats), .int (Int32.ofInt i_p0_rules_stirs), .ref a_p0_rules_need, .ref a_p0_rules_kind, .ref a_p0_rules_first, .ref a_p0_rules_second, .ref a_p0_rules_after])), (a_p0_rules_after, .inl (G 1, 35, .inl (zA v_p0_rules_after))), (a_p0_state, .inr (8, [.ref a_p0_state_pieces, .ref a_p0_state_friends, .ref a_p0_state_spoons, .ref a_p0_state_eaten, .ref a_p0_state_seen, .int (Int32.ofInt i_p0_state_seenDays), .int (Int32.ofInt i_p0_state_bone), .int (Int32.ofInt i_p0_state_king), .int (Int32.ofInt i_p0_state_days)])), (a_p0_state_friends, .inl (G 1, 7, .inl (zA v_p0_state_friends))), (a_p0_state_seen, .inl (G 1, 6, .inl (zA v_p0_state_seen))), (a_p0_kitchen, .inr (2, [.ref a_p0_rules, .ref a_p0_state, .ref a_p0_kitchen_places, .ref a_p0_kitchen_holders, .ref a_p0_kitchen_stirred])), (a_p0_kitchen_places, .inl (G 1, 49, .inl (zA v_p0_kitchen_places))), (a_p0_kitchen_holders, .inl (G 1, 49, .inl (zA v_p0_kitchen_holders))), (a_p0_past, .inr (4, [.ref a_p0_kitchen, .ref a_p0_past_fitting])), (a_p0_past_fitting, .inl (G 1, 6, .inl (zA v_p0_past_fitting)))] sz)) 0 0 (va_A [(a_p0, .inr (11, [.ref a_p0_rules, .ref a_p0_state, .ref a_p0_tape, .ref a_p0_reader, .ref a_p0_kitchen, .ref a_p0_luck, .ref a_p0_plans, .ref a_p0_coups, .ref a_p0_past, .ref a_p0_fairDays, .ref a_p0_images, .ref a_p0_imageHeld, .ref a_p0_sheets, .int (Int32.ofInt i_p0_latestFault), .int (Int32.ofInt i_p0_latestTear)])), (a_p0_rules, .inr (6, [.int (Int32.ofInt i_p0_rules_seats), .int (Int32.ofInt i_p0_rules_stirs), .ref a_p0_rules_need, .ref a_p0_rules_kind, .ref a_p0_rules_first, .ref a_p0_rules_second, .ref a_p0_rules_after])), (a_p0_rules_after, .inl (G 1, 35, .inl (zA v_p0_rules_after))), (a_p0_state, .inr (8, [.ref a_p0_state_pieces, .ref a_p0_state_friends, .ref a_p0_state_spoons, .ref a_p0_state_eaten, .ref a_p0_state_seen, .int (Int32.ofInt i_p0_state_seenDays), .int (Int32.ofInt i_p0_state_bone), .int (Int32.ofInt i_p0_state_king), .int (Int32.ofInt i_p0_state_days)])), (a_p0_state_friends, .inl (G 1, 7, .inl (zA v_p0_state_friends))), (a_p0_state_seen, .inl (G 1, 6, .inl (zA v_p0_state_seen))), (a_p0_kitchen, .inr (2, [.ref a_p0_rules, .ref a_p0_state, .ref a_p0_kitchen_places, .ref a_p0_kitchen_holders, .ref a_p0_kitchen_stirred])), (a_p0_kitchen_places, .inl (G 1, 49, .inl (zA v_p0_kitchen_places))), (a_p0_kitchen_holders, .inl (G 1, 49, .inl (zA v_p0_kitchen_holders))), (a_p0_past, .inr (4, [.ref a_p0_kitchen, .ref a_p0_past_fitting])), (a_p0_past_fitting, .inl (G 1, 6, .inl (zA v_p0_past_fitting)))] sz) := by
  refine Met.ofW (cc := cX11_could) (maxL := 2) (ret := (some .int)) (by decide) rfl ?_
  intro p e s m args below meth c s₁ B hml hv
  obtain ⟨rfl, hsz, hP, hK, hD0⟩ := hv
  have hx := B.exec
  have hb := B.bytes
  have hr := B.returns
  have hts := atoms_spec (ws := wsX11_could) B.pre
  have hown : s.vm.findClass RX11 = some m.cls := findClass_of_methodNamed B.named
  have hlocks := B.notSynchronized
  subst hsz
  have hD := hD0.self (sz := s.heap.size)
  generalize hAe : va_A [(a_p0, .inr (11, [.ref a_p0_rules, .ref a_p0_state, .ref a_p0_tape, .ref a_p0_reader, .ref a_p0_kitchen, .ref a_p0_luck, .ref a_p0_plans, .ref a_p0_coups, .ref a_p0_past, .ref a_p0_fairDays, .ref a_p0_images, .ref a_p0_imageHeld, .ref a_p0_sheets, .int (Int32.ofInt i_p0_latestFault), .int (Int32.ofInt i_p0_latestTear)])), (a_p0_rules, .inr (6, [.int (Int32.ofInt i_p0_rules_seats), .int (Int32.ofInt i_p0_rules_stirs), .ref a_p0_rules_need, .ref a_p0_rules_kind, .ref a_p0_rules_first, .ref a_p0_rules_second, .ref a_p0_rules_after])), (a_p0_rules_after, .inl (G 1, 35, .inl (zA v_p0_rules_after))), (a_p0_state, .inr (8, [.ref a_p0_state_pieces, .ref a_p0_state_friends, .ref a_p0_state_spoons, .ref a_p0_state_eaten, .ref a_p0_state_seen, .int (Int32.ofInt i_p0_state_seenDays), .int (Int32.ofInt i_p0_state_bone), .int (Int32.ofInt i_p0_state_king), .int (Int32.ofInt i_p0_state_days)])), (a_p0_state_friends, .inl (G 1, 7, .inl (zA v_p0_state_friends))), (a_p0_state_seen, .inl (G 1, 6, .inl (zA v_p0_state_seen))), (a_p0_kitchen, .inr (2, [.ref a_p0_rules, .ref a_p0_state, .ref a_p0_kitchen_places, .ref a_p0_kitchen_holders, .ref a_p0_kitchen_stirred])), (a_p0_kitchen_places, .inl (G 1, 49, .inl (zA v_p0_kitchen_places))), (a_p0_kitchen_holders, .inl (G 1, 49, .inl (zA v_p0_kitchen_holders))), (a_p0_past, .inr (4, [.ref a_p0_kitchen, .ref a_p0_past_fitting])), (a_p0_past_fitting, .inl (G 1, 6, .inl (zA v_p0_past_fitting)))] s.heap.size = A at hD ⊢
  have hA : ∀ q : Nat, s.heap.size ≤ q → A q := fun q h => by rw [← hAe]; exact Or.inr h
  clear hAe hD0
  have hS : va_S A s.heap s.heap [] := va_S.rf
  have hl := lv_entry ([.ref a_p0, .int (Int32.ofInt x1)]) (n := 2) (Nat.le_of_ble_eq_true rfl)
  rw [lg_entry_eq]
  generalize (lg_sl ([.ref a_p0, .int (Int32.ofInt x1)]) ++ List.replicate (2 - (lg_sl ([.ref a_p0, .int (Int32.ofInt x1)])).length) Slot.unset).toArray = ls at hl ⊢
  have hl : lv_has ls 2 [(0, .ref a_p0), (1, .int (Int32.ofInt x1))] := hl
  refine W_nameQ (fun Q hQ => ?_)
  obtain ⟨H, hH⟩ : ∃ H, H = s.heap := ⟨_, rfl⟩
  replace hS : va_S A s.heap H [] := by rw [hH]; exact hS
  replace hP : va_P D vwCl [(a_p0, .inr (11, [.ref a_p0_rules, .ref a_p0_state, .ref a_p0_tape, .ref a_p0_reader, .ref a_p0_kitchen, .ref a_p0_luck, .ref a_p0_plans, .ref a_p0_coups, .ref a_p0_past, .ref a_p0_fairDays, .ref a_p0_images, .ref a_p0_imageHeld, .ref a_p0_sheets, .int (Int32.ofInt i_p0_latestFault), .int (Int32.ofInt i_p0_latestTear)])), (a_p0_rules, .inr (6, [.int (Int32.ofInt i_p0_rules_seats), .int (Int32.ofInt i_p0_rules_stirs), .ref a_p0_rules_need, .ref a_p0_rules_kind, .ref a_p0_rules_first, .ref a_p0_rules_second, .ref a_p0_rules_after])), (a_p0_rules_after, .inl (G 1, 35, .inl (zA v_p0_rules_after))), (a_p0_state, .inr (8, [.ref a_p0_state_pieces, .ref a_p0_state_friends, .ref a_p0_state_spoons, .ref a_p0_state_eaten, .ref a_p0_state_seen, .int (Int32.ofInt i_p0_state_seenDays), .int (Int32.ofInt i_p0_state_bone), .int (Int32.ofInt i_p0_state_king), .int (Int32.ofInt i_p0_state_days)])), (a_p0_state_friends, .inl (G 1, 7, .inl (zA v_p0_state_friends))), (a_p0_state_seen, .inl (G 1, 6, .inl (zA v_p0_state_seen))), (a_p0_kitchen, .inr (2, [.ref a_p0_rules, .ref a_p0_state, .ref a_p0_kitchen_places, .ref a_p0_kitchen_holders, .ref a_p0_kitchen_stirred])), (a_p0_kitchen_places, .inl (G 1, 49, .inl (zA v_p0_kitchen_places))), (a_p0_kitchen_holders, .inl (G 1, 49, .inl (zA v_p0_kitchen_holders))), (a_p0_past, .inr (4, [.ref a_p0_kitchen, .ref a_p0_past_fitting])), (a_p0_past_fitting, .inl (G 1, 6, .inl (zA v_p0_past_fitting)))] H := by rw [hH]; exact hP
  rw [← hH]
  clear hH
  unfold f_X11_could at hf
  refine lv_iload_n hx hb dX11_could_0 rfl (lv_at hl 1 rfl) ?_
  have hr0 := ck_c hf
  replace hf := ck_r hf
  refine lv_if_lt (tgt := 15) hx hb dX11_could_1 (by decide) (fun cc => ?_) (fun cc => ?_)
  ·
    replace hf := ite_t ((z_lt0 hr0).mp cc) hf
    clear cc
    refine lv_iconst (v := Int32.ofInt (-1 : Int)) hx hb dX11_could_15 (by decide) ?_
    obtain ⟨rfl, rfl, rfl, rfl⟩ := ou4 hf
    rw [hQ]
    exact W.iret hx hb hr (fun t ht hW => ⟨⟨_, (), rfl, rfl, by rw [ht]; exact hP, va_K.moved hW.alike hK, hD⟩, hS.F ht⟩) hS.2.2 dX11_could_16
  ·
    replace hf := ite_f (fun h9 => cc ((z_lt0 hr0).mpr h9)) hf
    clear cc
    refine lv_iload_n hx hb dX11_could_4 rfl (lv_at hl 1 rfl) ?_
    refine lv_aload_n hx hb dX11_could_5 rfl (lv_at hl 0 rfl) ?_
    refine va_get (D := D) (ci := 11) (v := .ref a_p0_state) (C := RX11) (T := TX11) (N := 15) hx hb hts inX11_could_X11 hown hK hP 0 rfl rfl 1 (by decide) (hts _ mwX11_could_1) (fun _ h9 => h9) rfl dX11_could_6 ?_
    refine va_get (D := D) (ci := 8) (v := .int (Int32.ofInt i_p0_state_seenDays)) (C := RX8) (T := TX8) (N := 9) hx hb hts inX11_could_X8 hown hK hP 3 rfl rfl 5 (by decide) (hts _ mwX11_could_3) (fun _ h9 => h9) rfl dX11_could_9 ?_
    have hr1 := ck_c hf
    replace hf := ck_r hf
    refine lv_icmp_lt (tgt := 17) hx hb dX11_could_12 (by decide) (fun cc => ?_) (fun cc => ?_)
    ·
      replace hf := ite_t ((z_lt hr0 hr1).mp cc) hf
      clear cc
      refine lv_aload_n hx hb dX11_could_17 rfl (lv_at hl 0 rfl) ?_
      refine va_get (D := D) (ci := 11) (v := .ref a_p0_past) (C := RX11) (T := TX11) (N := 15) hx hb hts inX11_could_X11 hown hK hP 0 rfl rfl 8 (by decide) (hts _ mwX11_could_4) (fun _ h9 => h9) rfl dX11_could_18 ?_
      refine lv_iload_n hx hb dX11_could_21 rfl (lv_at hl 1 rfl) ?_
      have hq := bd4_s hf
      clear hf
      obtain ⟨z3, w4, w5, w6, hcall, hf⟩ := hq
      refine gcI (ws' := [(a_p0, .inr (11, [.ref a_p0_rules, .ref a_p0_state, .ref a_p0_tape, .ref a_p0_reader, .ref a_p0_kitchen, .ref a_p0_luck, .ref a_p0_plans, .ref a_p0_coups, .ref a_p0_past, .ref a_p0_fairDays, .ref a_p0_images, .ref a_p0_imageHeld, .ref a_p0_sheets, .int (Int32.ofInt i_p0_latestFault), .int (Int32.ofInt i_p0_latestTear)])), (a_p0_rules, .inr (6, [.int (Int32.ofInt i_p0_rules_seats), .int (Int32.ofInt i_p0_rules_stirs), .ref a_p0_rules_need, .ref a_p0_rules_kind, .ref a_p0_rules_first, .ref a_p0_rules_second, .ref a_p0_rules_after])), (a_p0_rules_after, .inl (G 1, 35, .inl (zA v_p0_rules_after))), (a_p0_state, .inr (8, [.ref a_p0_state_pieces, .ref a_p0_state_friends, .ref a_p0_state_spoons, .ref a_p0_state_eaten, .ref a_p0_state_seen, .int (Int32.ofInt i_p0_state_seenDays), .int (Int32.ofInt i_p0_state_bone), .int (Int32.ofInt i_p0_state_king), .int (Int32.ofInt i_p0_state_days)])), (a_p0_state_friends, .inl (G 1, 7, .inl (zA v_p0_state_friends))), (a_p0_state_seen, .inl (G 1, 6, .inl (zA v_p0_state_seen))), (a_p0_kitchen, .inr (2, [.ref a_p0_rules, .ref a_p0_state, .ref a_p0_kitchen_places, .ref a_p0_kitchen_holders, .ref a_p0_kitchen_stirred])), (a_p0_kitchen_places, .inl (G 1, 49, .inl (zA w4))), (a_p0_kitchen_holders, .inl (G 1, 49, .inl (zA w5))), (a_p0_past, .inr (4, [.ref a_p0_kitchen, .ref a_p0_past_fitting])), (a_p0_past_fitting, .inl (G 1, 6, .inl (zA w6)))]) (va_runV (As := [.int (Int32.ofInt x1)]) (rest := []) ⟨hx, hb, hml, hown, hts⟩ (c_X4_stirsOfDay (l := l) (D := D) (G := G) (sz := H.size) (a_p0 := a_p0_past) (a_p0_kitchen := a_p0_kitchen) (a_p0_fitting := a_p0_past_fitting) (a_p0_kitchen_rules := a_p0_rules) (a_p0_kitchen_state := a_p0_state) (a_p0_kitchen_places := a_p0_kitchen_places) (a_p0_kitchen_holders := a_p0_kitchen_holders) (a_p0_kitchen_stirred := a_p0_kitchen_stirred) (a_p0_kitchen_rules_need := a_p0_rules_need) (a_p0_kitchen_rules_kind := a_p0_rules_kind) (a_p0_kitchen_rules_first := a_p0_rules_first) (a_p0_kitchen_rules_second := a_p0_rules_second) (a_p0_kitchen_rules_after := a_p0_rules_after) (a_p0_kitchen_state_pieces := a_p0_state_pieces) (a_p0_kitchen_state_friends := a_p0_state_friends) (a_p0_kitchen_state_spoons := a_p0_state_spoons) (a_p0_kitchen_state_eaten := a_p0_state_eaten) (a_p0_kitchen_state_seen := a_p0_state_seen) (i_p0_kitchen_rules_seats := i_p0_rules_seats) (i_p0_kitchen_rules_stirs := i_p0_rules_stirs) (v_p0_kitchen_rules_after := v_p0_rules_after) (i_p0_kitchen_state_seenDays := i_p0_state_seenDays) (i_p0_kitchen_state_bone := i_p0_state_bone) (i_p0_kitchen_state_king := i_p0_state_king) (i_p0_kitchen_state_days := i_p0_state_days) (v_p0_kitchen_state_friends := v_p0_state_friends) (v_p0_kitchen_state_seen := v_p0_state_seen) (v_p0_kitchen_places := v_p0_kitchen_places) (v_p0_kitchen_holders := v_p0_kitchen_holders) (v_p0_fitting := v_p0_past_fitting) (x1 := x1) (r := z3) (o_v_p0_kitchen_places := w4) (o_v_p0_kitchen_holders := w5) (o_v_p0_fitting := w6) (hf := hcall)) (cwV 1 hts gX11_could_X4_stirsOfDay rfl rfl rfl (by decide +kernel) ⟨Nat.le_of_ble_eq_true rfl, Nat.le_of_ble_eq_true rfl⟩) (preG_V (ci := 4) (hP.sub [9, 6, 1, 2, 3, 4, 5, 7, 8, 10] rfl) (hD.sub [9, 6, 1, 2, 3, 4, 5, 7, 8, 10] rfl rfl) hK rfl rfl) rfl rfl hl.1 rfl (lv_room (Nat.le_of_ble_eq_true rfl)) dX11_could_22 ⟨Nat.le_of_ble_eq_true rfl, Nat.le_of_ble_eq_true rfl⟩) hP hD hS hA [9, 6, 1, 2, 3, 4, 5, 7, 8, 10] [0] [0, 3, 4, 5, 6, 7, 2, 8, 9, 1, 10] rfl rfl rfl (by decide) rfl rfl rfl (fun H locs hP hD hS => ?_)
      clear hcall
      obtain ⟨rfl, rfl, rfl, rfl⟩ := ou4 hf
      rw [hQ]
      exact W.iret hx hb hr (fun t ht hW => ⟨⟨_, (), rfl, rfl, by rw [ht]; exact hP, va_K.moved hW.alike hK, hD⟩, hS.F ht⟩) hS.2.2 dX11_could_25
    ·
      replace hf := ite_f (fun h9 => cc ((z_lt hr0 hr1).mpr h9)) hf
      clear cc
      refine lv_iconst (v := Int32.ofInt (-1 : Int)) hx hb dX11_could_15 (by decide) ?_
      obtain ⟨rfl, rfl, rfl, rfl⟩ := ou4 hf
      rw [hQ]
      exact W.iret hx hb hr (fun t ht hW => ⟨⟨_, (), rfl, rfl, by rw [ht]; exact hP, va_K.moved hW.alike hK, hD⟩, hS.F ht⟩) hS.2.2 dX11_could_16

noncomputable def f_X11_blind (i_p0_rules_seats : Int) (v_p0_luck_finds : (Int → Int)) (x1 : Int) (x2 : Int) (x3 : Int) : Option (Int × (Int → Int)) := (ck (z_r32 x2) (if x2 < (1 : Int) then (some ((-1 : Int), v_p0_luck_finds)) else (if (12 : Int) < x2 then (some ((-1 : Int), v_p0_luck_finds)) else (ck (z_r32 x1) (if x1 < (0 : Int) then (some ((-1 : Int), v_p0_luck_finds)) else (if x2 < x1 then (some ((-1 : Int), v_p0_luck_finds)) else (bd1 (f_X11_isPart x3) (fun (z3 : Int) => (ck (z_r32 z3) (if z3 = (0 : Int) then (some ((-1 : Int), v_p0_luck_finds)) else (bd2 (f_X3_triesWithFinds i_p0_rules_seats v_p0_luck_finds x1 x2) (fun (z5 : Int) (w6 : (Int → Int)) => (bd1 (f_X3_power i_p0_rules_seats x2) (fun (z7 : Int) => (bd1 (f_X3_part z5 z7 x3) (fun (z8 : Int) => (some (z8, w6))))))))))))))))))
abbrev rm_X11_blind : Room := { frames := 2, cells := 0, slots := 0, locals := 56 }
theorem mwX11_blind_0 : Cond.constantLong RX11 202 (-1) ∈ wsX11_blind := by decide +kernel
theorem inX11_blind_X11 : ∀ w ∈ wsX110, w ∈ wsX11_blind := by decide +kernel
theorem mwX11_blind_2 : Cond.fieldLink RX11 53 "LadleKings" "luck" "LLadleKings$Luck;" ∈ wsX11_blind := by decide +kernel
theorem mwX11_blind_3 : Cond.fieldLink RX11 10 "LadleKings" "rules" "LLadleKings$Rules;" ∈ wsX11_blind := by decide +kernel
theorem inX11_blind_X6 : ∀ w ∈ wsX60, w ∈ wsX11_blind := by decide +kernel
theorem mwX11_blind_5 : Cond.fieldLink RX11 130 "LadleKings$Rules" "seats" "I" ∈ wsX11_blind := by decide +kernel
set_option maxHeartbeats 8000000 in
set_option maxRecDepth 100000 in
theorem c_X11_blind (l : Launch) (D : va_G) (G : Nat → ClassId) (sz : Nat) (a_p0 : Nat) (a_p0_rules : Nat) (a_p0_state : Nat) (a_p0_tape : Nat) (a_p0_reader : Nat) (a_p0_kitchen : Nat) (a_p0_luck : Nat) (a_p0_plans : Nat) (a_p0_coups : Nat) (a_p0_past : Nat) (a_p0_fairDays : Nat) (a_p0_images : Nat) (a_p0_imageHeld : Nat) (a_p0_sheets : Nat) (a_p0_rules_need : Nat) (a_p0_rules_kind : Nat) (a_p0_rules_first : Nat) (a_p0_rules_second : Nat) (a_p0_rules_after : Nat) (a_p0_kitchen_places : Nat) (a_p0_kitchen_holders : Nat) (a_p0_kitchen_stirred : Nat) (a_p0_luck_rows : Nat) (a_p0_luck_later : Nat) (a_p0_luck_finds : Nat) (i_p0_latestFault : Int) (i_p0_latestTear : Int) (i_p0_rules_seats : Int) (i_p0_rules_stirs : Int) (v_p0_luck_finds : (Int → Int)) (x1 : Int) (x2 : Int) (x3 : Int) (r : Int) (o_v_p0_luck_finds : (Int → Int)) (hf : f_X11_blind i_p0_rules_seats v_p0_luck_finds x1 x2 x3 = some (r, o_v_p0_luck_finds)) : Met l yX11_blind wsX11_blind rm_X11_blind (pcG D G [.ref a_p0, .int (Int32.ofInt x1), .int (Int32.ofInt x2), .int (Int32.ofInt x3)] sz [(a_p0, .inr (11, [.ref a_p0_rules, .ref a_p0_state, .ref a_p0_tape, .ref a_p0_reader, .ref a_p0_kitchen, .ref a_p0_luck, .ref a_p0_plans, .ref a_p0_coups, .ref a_p0_past, .ref a_p0_fairDays, .ref a_p0_images, .ref a_p0_imageHeld, .ref a_p0_sheets, .int (Int32.ofInt i_p0_latestFault), .int (Int32.ofInt i_p0_latestTear)])), (a_p0_rules, .inr (6, [.int (Int32.ofInt i_p0_rules_seats), .int (Int32.ofInt i_p0_rules_stirs), .ref a_p0_rules_need, .ref a_p0_rules_kind, .ref a_p0_rules_first, .ref a_p0_rules_second, .ref a_p0_rules_after])), (a_p0_kitchen, .inr (2, [.ref a_p0_rules, .ref a_p0_state, .ref a_p0_kitchen_places, .ref a_p0_kitchen_holders, .ref a_p0_kitchen_stirred])), (a_p0_luck, .inr (3, [.ref a_p0_kitchen, .ref a_p0_luck_rows, .ref a_p0_luck_later, .ref a_p0_luck_finds])), (a_p0_luck_finds, .inl (G 2, 13, .inr (.inl (zL v_p0_luck_finds))))]) (qcL D G (Int64.ofInt r) [(a_p0, .inr (11, [.ref a_p0_rules, .ref a_p0_state, .ref a_p0_tape, .ref a_p0_reader, .ref a_p0_kitchen, .ref a_p0_luck, .ref a_p0_plans, .ref a_p0_coups, .ref a_p0_past, .ref a_p0_fairDays, .ref a_p0_images, .ref a_p0_imageHeld, .ref a_p0_sheets, .int (Int32.ofInt i_p0_latestFault), .int (Int32.ofInt i_p0_latestTear)])), (a_p0_rules, .inr (6, [.int (Int32.ofInt i_p0_rules_seats), .int (Int32.ofInt i_p0_rules_stirs), .ref a_p0_rules_need, .ref a_p0_rules_kind, .ref a_p0_rules_first, .ref a_p0_rules_second, .ref a_p0_rules_after])), (a_p0_kitchen, .inr (2, [.ref a_p0_rules, .ref a_p0_state, .ref a_p0_kitchen_places, .ref a_p0_kitchen_holders, .ref a_p0_kitchen_stirred])), (a_p0_luck, .inr (3, [.ref a_p0_kitchen, .ref a_p0_luck_rows, .ref a_p0_luck_later, .ref a_p0_luck_finds])), (a_p0_luck_finds, .inl (G 2, 13, .inr (.inl (zL o_v_p0_luck_finds))))] (va_A [(a_p0, .inr (11, [.ref a_p0_rules, .ref a_p0_state, .ref a_p0_tape, .ref a_p0_reader, .ref a_p0_kitchen, .ref a_p0_luck, .ref a_p0_plans, .ref a_p0_coups, .ref a_p0_past, .ref a_p0_fairDays, .ref a_p0_images, .ref a_p0_imageHeld, .ref a_p0_sheets, .int (Int32.ofInt i_p0_latestFault), .int (Int32.ofInt i_p0_latestTear)])), (a_p0_rules, .inr (6, [.int (Int32.ofInt i_p0_rules_seats), .int (Int32.ofInt i_p0_rules_stirs), .ref a_p0_rules_need, .ref a_p0_rules_kind, .ref a_p0_rules_first, .ref a_p0_rules_second, .ref a_p0_rules_after])), (a_p0_kitchen, .inr (2, [.ref a_p0_rules, .ref a_p0_state, .ref a_p0_kitchen_places, .ref a_p0_kitchen_holders, .ref a_p0_kitchen_stirred])), (a_p0_luck, .inr (3, [.ref a_p0_kitchen, .ref a_p0_luck_rows, .ref a_p0_luck_later, .ref a_p0_luck_finds])), (a_p0_luck_finds, .inl (G 2, 13, .inr (.inl (zL v_p0_luck_finds))))] sz)) 0 0 (va_A [(a_p0, .inr (11, [.ref a_p0_rules, .ref a_p0_state, .ref a_p0_tape, .ref a_p0_reader, .ref a_p0_kitchen, .ref a_p0_luck, .ref a_p0_plans, .ref a_p0_coups, .ref a_p0_past, .ref a_p0_fairDays, .ref a_p0_images, .ref a_p0_imageHeld, .ref a_p0_sheets, .int (Int32.ofInt i_p0_latestFault), .int (Int32.ofInt i_p0_latestTear)])), (a_p0_rules, .inr (6, [.int (Int32.ofInt i_p0_rules_seats), .int (Int32.ofInt i_p0_rules_stirs), .ref a_p0_rules_need, .ref a_p0_rules_kind, .ref a_p0_rules_first, .ref a_p0_rules_second, .ref a_p0_rules_after])), (a_p0_kitchen, .inr (2, [.ref a_p0_rules, .ref a_p0_state, .ref a_p0_kitchen_places, .ref a_p0_kitchen_holders, .ref a_p0_kitchen_stirred])), (a_p0_luck, .inr (3, [.ref a_p0_kitchen, .ref a_p0_luck_rows, .ref a_p0_luck_later, .ref a_p0_luck_finds])), (a_p0_luck_finds, .inl (G 2, 13, .inr (.inl (zL v_p0_luck_finds))))] sz) := by
  refine Met.ofW (cc := cX11_blind) (maxL := 4) (ret := (some .long)) (by decide) rfl ?_
  intro p e s m args below meth c s₁ B hml hv
  obtain ⟨rfl, hsz, hP, hK, hD0⟩ := hv
  have hx := B.exec
  have hb := B.bytes
  have hr := B.returns
  have hts := atoms_spec (ws := wsX11_blind) B.pre
  have hown : s.vm.findClass RX11 = some m.cls := findClass_of_methodNamed B.named
  have hlocks := B.notSynchronized
  subst hsz
  have hD := hD0.self (sz := s.heap.size)
  generalize hAe : va_A [(a_p0, .inr (11, [.ref a_p0_rules, .ref a_p0_state, .ref a_p0_tape, .ref a_p0_reader, .ref a_p0_kitchen, .ref a_p0_luck, .ref a_p0_plans, .ref a_p0_coups, .ref a_p0_past, .ref a_p0_fairDays, .ref a_p0_images, .ref a_p0_imageHeld, .ref a_p0_sheets, .int (Int32.ofInt i_p0_latestFault), .int (Int32.ofInt i_p0_latestTear)])), (a_p0_rules, .inr (6, [.int (Int32.ofInt i_p0_rules_seats), .int (Int32.ofInt i_p0_rules_stirs), .ref a_p0_rules_need, .ref a_p0_rules_kind, .ref a_p0_rules_first, .ref a_p0_rules_second, .ref a_p0_rules_after])), (a_p0_kitchen, .inr (2, [.ref a_p0_rules, .ref a_p0_state, .ref a_p0_kitchen_places, .ref a_p0_kitchen_holders, .ref a_p0_kitchen_stirred])), (a_p0_luck, .inr (3, [.ref a_p0_kitchen, .ref a_p0_luck_rows, .ref a_p0_luck_later, .ref a_p0_luck_finds])), (a_p0_luck_finds, .inl (G 2, 13, .inr (.inl (zL v_p0_luck_finds))))] s.heap.size = A at hD ⊢
  have hA : ∀ q : Nat, s.heap.size ≤ q → A q := fun q h => by rw [← hAe]; exact Or.inr h
  clear hAe hD0
  have hS : va_S A s.heap s.heap [] := va_S.rf
  have hl := lv_entry ([.ref a_p0, .int (Int32.ofInt x1), .int (Int32.ofInt x2), .int (Int32.ofInt x3)]) (n := 4) (Nat.le_of_ble_eq_true rfl)
  rw [lg_entry_eq]
  generalize (lg_sl ([.ref a_p0, .int (Int32.ofInt x1), .int (Int32.ofInt x2), .int (Int32.ofInt x3)]) ++ List.replicate (4 - (lg_sl ([.ref a_p0, .int (Int32.ofInt x1), .int (Int32.ofInt x2), .int (Int32.ofInt x3)])).length) Slot.unset).toArray = ls at hl ⊢
  have hl : lv_has ls 4 [(0, .ref a_p0), (1, .int (Int32.ofInt x1)), (2, .int (Int32.ofInt x2)), (3, .int (Int32.ofInt x3))] := hl
  refine W_nameQ (fun Q hQ => ?_)
  obtain ⟨H, hH⟩ : ∃ H, H = s.heap := ⟨_, rfl⟩
  replace hS : va_S A s.heap H [] := by rw [hH]; exact hS
  replace hP : va_P D vwCl [(a_p0, .inr (11, [.ref a_p0_rules, .ref a_p0_state, .ref a_p0_tape, .ref a_p0_reader, .ref a_p0_kitchen, .ref a_p0_luck, .ref a_p0_plans, .ref a_p0_coups, .ref a_p0_past, .ref a_p0_fairDays, .ref a_p0_images, .ref a_p0_imageHeld, .ref a_p0_sheets, .int (Int32.ofInt i_p0_latestFault), .int (Int32.ofInt i_p0_latestTear)])), (a_p0_rules, .inr (6, [.int (Int32.ofInt i_p0_rules_seats), .int (Int32.ofInt i_p0_rules_stirs), .ref a_p0_rules_need, .ref a_p0_rules_kind, .ref a_p0_rules_first, .ref a_p0_rules_second, .ref a_p0_rules_after])), (a_p0_kitchen, .inr (2, [.ref a_p0_rules, .ref a_p0_state, .ref a_p0_kitchen_places, .ref a_p0_kitchen_holders, .ref a_p0_kitchen_stirred])), (a_p0_luck, .inr (3, [.ref a_p0_kitchen, .ref a_p0_luck_rows, .ref a_p0_luck_later, .ref a_p0_luck_finds])), (a_p0_luck_finds, .inl (G 2, 13, .inr (.inl (zL v_p0_luck_finds))))] H := by rw [hH]; exact hP
  rw [← hH]
  clear hH
  unfold f_X11_blind at hf
  refine lv_iload_n hx hb dX11_blind_0 rfl (lv_at hl 2 rfl) ?_
  refine lv_iconst (v := Int32.ofInt (1 : Int)) hx hb dX11_blind_1 (by decide) ?_
  have hr0 := ck_c hf
  replace hf := ck_r hf
  refine lv_icmp_lt (tgt := 27) hx hb dX11_blind_2 (by decide) (fun cc => ?_) (fun cc => ?_)
  ·
    replace hf := ite_t ((z_lt hr0 (by decide)).mp cc) hf
    clear cc
    refine lv_ldc2 (v := (-1 : Int64)) hx hb hown (hts _ mwX11_blind_0) dX11_blind_27 (z_cl (show Int64.ofInt (-1 : Int) = _ from by decide) ?_)
    obtain ⟨rfl, rfl⟩ := ou2 hf
    rw [hQ]
    exact W.lret hx hb hr (fun t ht hW => ⟨⟨_, (), rfl, rfl, by rw [ht]; exact hP, va_K.moved hW.alike hK, hD⟩, hS.F ht⟩) hS.2.2 dX11_blind_30
  ·
    replace hf := ite_f (fun h9 => cc ((z_lt hr0 (by decide)).mpr h9)) hf
    clear cc
    refine lv_iload_n hx hb dX11_blind_5 rfl (lv_at hl 2 rfl) ?_
    refine lv_bipush (v := Int32.ofInt (12 : Int)) hx hb dX11_blind_6 (by decide) ?_
    refine lv_icmp_gt (tgt := 27) hx hb dX11_blind_8 (by decide) (fun cc => ?_) (fun cc => ?_)
    ·
      replace hf := ite_t ((z_lt (by decide) hr0).mp cc) hf
      clear cc
      refine lv_ldc2 (v := (-1 : Int64)) hx hb hown (hts _ mwX11_blind_0) dX11_blind_27 (z_cl (show Int64.ofInt (-1 : Int) = _ from by decide) ?_)
      obtain ⟨rfl, rfl⟩ := ou2 hf
      rw [hQ]
      exact W.lret hx hb hr (fun t ht hW => ⟨⟨_, (), rfl, rfl, by rw [ht]; exact hP, va_K.moved hW.alike hK, hD⟩, hS.F ht⟩) hS.2.2 dX11_blind_30
    ·
      replace hf := ite_f (fun h9 => cc ((z_lt (by decide) hr0).mpr h9)) hf
      clear cc
      refine lv_iload_n hx hb dX11_blind_11 rfl (lv_at hl 1 rfl) ?_
      have hr1 := ck_c hf
      replace hf := ck_r hf
      refine lv_if_lt (tgt := 27) hx hb dX11_blind_12 (by decide) (fun cc => ?_) (fun cc => ?_)
      ·
        replace hf := ite_t ((z_lt0 hr1).mp cc) hf
        clear cc
        refine lv_ldc2 (v := (-1 : Int64)) hx hb hown (hts _ mwX11_blind_0) dX11_blind_27 (z_cl (show Int64.ofInt (-1 : Int) = _ from by decide) ?_)
        obtain ⟨rfl, rfl⟩ := ou2 hf
        rw [hQ]
        exact W.lret hx hb hr (fun t ht hW => ⟨⟨_, (), rfl, rfl, by rw [ht]; exact hP, va_K.moved hW.alike hK, hD⟩, hS.F ht⟩) hS.2.2 dX11_blind_30
      ·
        replace hf := ite_f (fun h9 => cc ((z_lt0 hr1).mpr h9)) hf
        clear cc
        refine lv_iload_n hx hb dX11_blind_15 rfl (lv_at hl 1 rfl) ?_
        refine lv_iload_n hx hb dX11_blind_16 rfl (lv_at hl 2 rfl) ?_
        refine lv_icmp_gt (tgt := 27) hx hb dX11_blind_17 (by decide) (fun cc => ?_) (fun cc => ?_)
        ·
          replace hf := ite_t ((z_lt hr0 hr1).mp cc) hf
          clear cc
          refine lv_ldc2 (v := (-1 : Int64)) hx hb hown (hts _ mwX11_blind_0) dX11_blind_27 (z_cl (show Int64.ofInt (-1 : Int) = _ from by decide) ?_)
          obtain ⟨rfl, rfl⟩ := ou2 hf
          rw [hQ]
          exact W.lret hx hb hr (fun t ht hW => ⟨⟨_, (), rfl, rfl, by rw [ht]; exact hP, va_K.moved hW.alike hK, hD⟩, hS.F ht⟩) hS.2.2 dX11_blind_30
        ·
          replace hf := ite_f (fun h9 => cc ((z_lt hr0 hr1).mpr h9)) hf
          clear cc
          refine lv_iload_n hx hb dX11_blind_20 rfl (lv_at hl 3 rfl) ?_
          have hq := bd1_s hf
          clear hf
          obtain ⟨z3, hcall, hf⟩ := hq
          refine gcI (ws' := [(a_p0, .inr (11, [.ref a_p0_rules, .ref a_p0_state, .ref a_p0_tape, .ref a_p0_reader, .ref a_p0_kitchen, .ref a_p0_luck, .ref a_p0_plans, .ref a_p0_coups, .ref a_p0_past, .ref a_p0_fairDays, .ref a_p0_images, .ref a_p0_imageHeld, .ref a_p0_sheets, .int (Int32.ofInt i_p0_latestFault), .int (Int32.ofInt i_p0_latestTear)])), (a_p0_rules, .inr (6, [.int (Int32.ofInt i_p0_rules_seats), .int (Int32.ofInt i_p0_rules_stirs), .ref a_p0_rules_need, .ref a_p0_rules_kind, .ref a_p0_rules_first, .ref a_p0_rules_second, .ref a_p0_rules_after])), (a_p0_kitchen, .inr (2, [.ref a_p0_rules, .ref a_p0_state, .ref a_p0_kitchen_places, .ref a_p0_kitchen_holders, .ref a_p0_kitchen_stirred])), (a_p0_luck, .inr (3, [.ref a_p0_kitchen, .ref a_p0_luck_rows, .ref a_p0_luck_later, .ref a_p0_luck_finds])), (a_p0_luck_finds, .inl (G 2, 13, .inr (.inl (zL v_p0_luck_finds))))]) (va_runS (As := [.int (Int32.ofInt x3)]) (rest := []) ⟨hx, hb, hml, hown, hts⟩ (c_X11_isPart (l := l) (D := D) (G := G) (sz := H.size) (x0 := x3) (r := z3) (hf := hcall)) (va_cwS 1 hts gX11_blind_X11_isPart rfl rfl rfl (by decide +kernel) ⟨Nat.le_of_ble_eq_true rfl, Nat.le_of_ble_eq_true rfl⟩) (preG_S (hP.sub [] rfl) (hD.sub [] rfl rfl) hK) rfl rfl hl.1 rfl (lv_room (Nat.le_of_ble_eq_true rfl)) dX11_blind_21 ⟨Nat.le_of_ble_eq_true rfl, Nat.le_of_ble_eq_true rfl⟩) hP hD hS hA [] [0, 1, 2, 3, 4] [0, 1, 2, 3, 4] rfl rfl rfl (by decide) rfl rfl rfl (fun H locs hP hD hS => ?_)
          clear hcall
          have hr3 := ck_c hf
          replace hf := ck_r hf
          refine lv_if_ne (tgt := 31) hx hb dX11_blind_24 (by decide) (fun cc => ?_) (fun cc => ?_)
          ·
            replace hf := ite_f (fun h9 => cc ((z_eq0 hr3).mpr h9)) hf
            clear cc
            refine lv_aload_n hx hb dX11_blind_31 rfl (lv_at hl 0 rfl) ?_
            refine va_get (D := D) (ci := 11) (v := .ref a_p0_luck) (C := RX11) (T := TX11) (N := 15) hx hb hts inX11_blind_X11 hown hK hP 0 rfl rfl 5 (by decide) (hts _ mwX11_blind_2) (fun _ h9 => h9) rfl dX11_blind_32 ?_
            refine lv_iload_n hx hb dX11_blind_35 rfl (lv_at hl 1 rfl) ?_
            refine lv_iload_n hx hb dX11_blind_36 rfl (lv_at hl 2 rfl) ?_
            have hq := bd2_s hf
            clear hf
            obtain ⟨z5, w6, hcall, hf⟩ := hq
            refine gcL (ws' := [(a_p0, .inr (11, [.ref a_p0_rules, .ref a_p0_state, .ref a_p0_tape, .ref a_p0_reader, .ref a_p0_kitchen, .ref a_p0_luck, .ref a_p0_plans, .ref a_p0_coups, .ref a_p0_past, .ref a_p0_fairDays, .ref a_p0_images, .ref a_p0_imageHeld, .ref a_p0_sheets, .int (Int32.ofInt i_p0_latestFault), .int (Int32.ofInt i_p0_latestTear)])), (a_p0_rules, .inr (6, [.int (Int32.ofInt i_p0_rules_seats), .int (Int32.ofInt i_p0_rules_stirs), .ref a_p0_rules_need, .ref a_p0_rules_kind, .ref a_p0_rules_first, .ref a_p0_rules_second, .ref a_p0_rules_after])), (a_p0_kitchen, .inr (2, [.ref a_p0_rules, .ref a_p0_state, .ref a_p0_kitchen_places, .ref a_p0_kitchen_holders, .ref a_p0_kitchen_stirred])), (a_p0_luck, .inr (3, [.ref a_p0_kitchen, .ref a_p0_luck_rows, .ref a_p0_luck_later, .ref a_p0_luck_finds])), (a_p0_luck_finds, .inl (G 2, 13, .inr (.inl (zL w6))))]) (va_runV (As := [.int (Int32.ofInt x1), .int (Int32.ofInt x2)]) (rest := []) ⟨hx, hb, hml, hown, hts⟩ (c_X3_triesWithFinds (l := l) (D := D) (G := G) (sz := H.size) (a_p0 := a_p0_luck) (a_p0_kitchen := a_p0_kitchen) (a_p0_rows := a_p0_luck_rows) (a_p0_later := a_p0_luck_later) (a_p0_finds := a_p0_luck_finds) (a_p0_kitchen_rules := a_p0_rules) (a_p0_kitchen_state := a_p0_state) (a_p0_kitchen_places := a_p0_kitchen_places) (a_p0_kitchen_holders := a_p0_kitchen_holders) (a_p0_kitchen_stirred := a_p0_kitchen_stirred) (a_p0_kitchen_rules_need := a_p0_rules_need) (a_p0_kitchen_rules_kind := a_p0_rules_kind) (a_p0_kitchen_rules_first := a_p0_rules_first) (a_p0_kitchen_rules_second := a_p0_rules_second) (a_p0_kitchen_rules_after := a_p0_rules_after) (i_p0_kitchen_rules_seats := i_p0_rules_seats) (i_p0_kitchen_rules_stirs := i_p0_rules_stirs) (v_p0_finds := v_p0_luck_finds) (x1 := x1) (x2 := x2) (r := z5) (o_v_p0_finds := w6) (hf := hcall)) (cwV 2 hts gX11_blind_X3_triesWithFinds rfl rfl rfl (by decide +kernel) ⟨Nat.le_of_ble_eq_true rfl, Nat.le_of_ble_eq_true rfl⟩) (preG_V (ci := 3) (hP.sub [3, 2, 1, 4] rfl) (hD.sub [3, 2, 1, 4] rfl rfl) hK rfl rfl) rfl rfl hl.1 rfl (lv_room (Nat.le_of_ble_eq_true rfl)) dX11_blind_37 ⟨Nat.le_of_ble_eq_true rfl, Nat.le_of_ble_eq_true rfl⟩) hP hD hS hA [3, 2, 1, 4] [0] [0, 3, 2, 1, 4] rfl rfl rfl (by decide) rfl rfl rfl (fun H locs hP hD hS => ?_)
            clear hcall
            refine lv_aload_n hx hb dX11_blind_40 rfl (lv_at hl 0 rfl) ?_
            refine va_get (D := D) (ci := 11) (v := .ref a_p0_rules) (C := RX11) (T := TX11) (N := 15) hx hb hts inX11_blind_X11 hown hK hP 0 rfl rfl 0 (by decide) (hts _ mwX11_blind_3) (fun _ h9 => h9) rfl dX11_blind_41 ?_
            refine va_get (D := D) (ci := 6) (v := .int (Int32.ofInt i_p0_rules_seats)) (C := RX6) (T := TX6) (N := 7) hx hb hts inX11_blind_X6 hown hK hP 1 rfl rfl 0 (by decide) (hts _ mwX11_blind_5) (fun _ h9 => h9) rfl dX11_blind_44 ?_
            refine lv_iload_n hx hb dX11_blind_47 rfl (lv_at hl 2 rfl) ?_
            have hq := bd1_s hf
            clear hf
            obtain ⟨z7, hcall, hf⟩ := hq
            refine gcL (ws' := [(a_p0, .inr (11, [.ref a_p0_rules, .ref a_p0_state, .ref a_p0_tape, .ref a_p0_reader, .ref a_p0_kitchen, .ref a_p0_luck, .ref a_p0_plans, .ref a_p0_coups, .ref a_p0_past, .ref a_p0_fairDays, .ref a_p0_images, .ref a_p0_imageHeld, .ref a_p0_sheets, .int (Int32.ofInt i_p0_latestFault), .int (Int32.ofInt i_p0_latestTear)])), (a_p0_rules, .inr (6, [.int (Int32.ofInt i_p0_rules_seats), .int (Int32.ofInt i_p0_rules_stirs), .ref a_p0_rules_need, .ref a_p0_rules_kind, .ref a_p0_rules_first, .ref a_p0_rules_second, .ref a_p0_rules_after])), (a_p0_kitchen, .inr (2, [.ref a_p0_rules, .ref a_p0_state, .ref a_p0_kitchen_places, .ref a_p0_kitchen_holders, .ref a_p0_kitchen_stirred])), (a_p0_luck, .inr (3, [.ref a_p0_kitchen, .ref a_p0_luck_rows, .ref a_p0_luck_later, .ref a_p0_luck_finds])), (a_p0_luck_finds, .inl (G 2, 13, .inr (.inl (zL w6))))]) (va_runS (As := [.int (Int32.ofInt i_p0_rules_seats), .int (Int32.ofInt x2)]) (rest := [.long (Int64.ofInt z5)]) ⟨hx, hb, hml, hown, hts⟩ (c_X3_power (l := l) (D := D) (G := G) (sz := H.size) (x0 := i_p0_rules_seats) (x1 := x2) (r := z7) (hf := hcall)) (va_cwS 2 hts gX11_blind_X3_power rfl rfl rfl (by decide +kernel) ⟨Nat.le_of_ble_eq_true rfl, Nat.le_of_ble_eq_true rfl⟩) (preG_S (hP.sub [] rfl) (hD.sub [] rfl rfl) hK) rfl rfl hl.1 rfl (lv_room (Nat.le_of_ble_eq_true rfl)) dX11_blind_48 ⟨Nat.le_of_ble_eq_true rfl, Nat.le_of_ble_eq_true rfl⟩) hP hD hS hA [] [0, 1, 2, 3, 4] [0, 1, 2, 3, 4] rfl rfl rfl (by decide) rfl rfl rfl (fun H locs hP hD hS => ?_)
            clear hcall
            refine lv_iload_n hx hb dX11_blind_51 rfl (lv_at hl 3 rfl) ?_
            have hq := bd1_s hf
            clear hf
            obtain ⟨z8, hcall, hf⟩ := hq
            refine gcL (ws' := [(a_p0, .inr (11, [.ref a_p0_rules, .ref a_p0_state, .ref a_p0_tape, .ref a_p0_reader, .ref a_p0_kitchen, .ref a_p0_luck, .ref a_p0_plans, .ref a_p0_coups, .ref a_p0_past, .ref a_p0_fairDays, .ref a_p0_images, .ref a_p0_imageHeld, .ref a_p0_sheets, .int (Int32.ofInt i_p0_latestFault), .int (Int32.ofInt i_p0_latestTear)])), (a_p0_rules, .inr (6, [.int (Int32.ofInt i_p0_rules_seats), .int (Int32.ofInt i_p0_rules_stirs), .ref a_p0_rules_need, .ref a_p0_rules_kind, .ref a_p0_rules_first, .ref a_p0_rules_second, .ref a_p0_rules_after])), (a_p0_kitchen, .inr (2, [.ref a_p0_rules, .ref a_p0_state, .ref a_p0_kitchen_places, .ref a_p0_kitchen_holders, .ref a_p0_kitchen_stirred])), (a_p0_luck, .inr (3, [.ref a_p0_kitchen, .ref a_p0_luck_rows, .ref a_p0_luck_later, .ref a_p0_luck_finds])), (a_p0_luck_finds, .inl (G 2, 13, .inr (.inl (zL w6))))]) (va_runS (As := [.long (Int64.ofInt z5), .long (Int64.ofInt z7), .int (Int32.ofInt x3)]) (rest := []) ⟨hx, hb, hml, hown, hts⟩ (c_X3_part (l := l) (D := D) (G := G) (sz := H.size) (x0 := z5) (x2 := z7) (x4 := x3) (r := z8) (hf := hcall)) (va_cwS 3 hts gX11_blind_X3_part rfl rfl rfl (by decide +kernel) ⟨Nat.le_of_ble_eq_true rfl, Nat.le_of_ble_eq_true rfl⟩) (preG_S (hP.sub [] rfl) (hD.sub [] rfl rfl) hK) rfl rfl hl.1 rfl (lv_room (Nat.le_of_ble_eq_true rfl)) dX11_blind_52 ⟨Nat.le_of_ble_eq_true rfl, Nat.le_of_ble_eq_true rfl⟩) hP hD hS hA [] [0, 1, 2, 3, 4] [0, 1, 2, 3, 4] rfl rfl rfl (by decide) rfl rfl rfl (fun H locs hP hD hS => ?_)
            clear hcall
            obtain ⟨rfl, rfl⟩ := ou2 hf
            rw [hQ]
            exact W.lret hx hb hr (fun t ht hW => ⟨⟨_, (), rfl, rfl, by rw [ht]; exact hP, va_K.moved hW.alike hK, hD⟩, hS.F ht⟩) hS.2.2 dX11_blind_55
          ·
            replace hf := ite_t ((z_eq0 hr3).mp cc) hf
            clear cc
            refine lv_ldc2 (v := (-1 : Int64)) hx hb hown (hts _ mwX11_blind_0) dX11_blind_27 (z_cl (show Int64.ofInt (-1 : Int) = _ from by decide) ?_)
            obtain ⟨rfl, rfl⟩ := ou2 hf
            rw [hQ]
            exact W.lret hx hb hr (fun t ht hW => ⟨⟨_, (), rfl, rfl, by rw [ht]; exact hP, va_K.moved hW.alike hK, hD⟩, hS.F ht⟩) hS.2.2 dX11_blind_30

noncomputable def f_X11_fair (i_p0_rules_seats : Int) (i_p0_rules_stirs : Int) (v_p0_rules_after : (Int → Int)) (i_p0_state_bone : Int) (i_p0_state_king : Int) (v_p0_state_pieces : (Int → Int)) (v_p0_state_friends : (Int → Int)) (v_p0_kitchen_places : (Int → Int)) (v_p0_kitchen_holders : (Int → Int)) (i_p0_fairDays_days : Int) (i_p0_fairDays_least : Int) (v_p0_fairDays_pots : (Int → Int)) (v_p0_fairDays_sums : (Int → Int)) (v_p0_fairDays_kings : (Int → Int)) (v_p0_fairDays_bones : (Int → Int)) (v_p0_fairDays_row : (Int → Int)) (v_p0_fairDays_bestRow : (Int → Int)) (x1 : Int) (x2 : Int) : Option (Int × (Int → Int) × (Int → Int) × Int × Int × (Int → Int) × (Int → Int) × (Int → Int) × (Int → Int) × (Int → Int) × (Int → Int)) := (ck (z_r32 x1) (if x1 < (1 : Int) then (some ((-1 : Int), v_p0_kitchen_places, v_p0_kitchen_holders, i_p0_fairDays_days, i_p0_fairDays_least, v_p0_fairDays_pots, v_p0_fairDays_sums, v_p0_fairDays_kings, v_p0_fairDays_bones, v_p0_fairDays_row, v_p0_fairDays_bestRow)) else (if (4 : Int) < x1 then (some ((-1 : Int), v_p0_kitchen_places, v_p0_kitchen_holders, i_p0_fairDays_days, i_p0_fairDays_least, v_p0_fairDays_pots, v_p0_fairDays_sums, v_p0_fairDays_kings, v_p0_fairDays_bones, v_p0_fairDays_row, v_p0_fairDays_bestRow)) else (bd1 (f_X11_isRowQuestion x2 (4 : Int)) (fun (z2 : Int) => (ck (z_r32 z2) (if z2 = (0 : Int) then (some ((-1 : Int), v_p0_kitchen_places, v_p0_kitchen_holders, i_p0_fairDays_days, i_p0_fairDays_least, v_p0_fairDays_pots, v_p0_fairDays_sums, v_p0_fairDays_kings, v_p0_fairDays_bones, v_p0_fairDays_row, v_p0_fairDays_bestRow)) else (ck (z_r32 i_p0_rules_stirs) (if i_p0_rules_stirs = (0 : Int) then (some ((-2 : Int), v_p0_kitchen_places, v_p0_kitchen_holders, i_p0_fairDays_days, i_p0_fairDays_least, v_p0_fairDays_pots, v_p0_fairDays_sums, v_p0_fairDays_kings, v_p0_fairDays_bones, v_p0_fairDays_row, v_p0_fairDays_bestRow)) else (ck (z_r32 x2) (ck (z_r32 ((10 : Int) + x1)) (if x2 < ((10 : Int) + x1) then (bd11 (f_X1_leastSpread i_p0_rules_seats i_p0_rules_stirs v_p0_rules_after i_p0_state_bone i_p0_state_king v_p0_state_pieces v_p0_state_friends v_p0_kitchen_places v_p0_kitchen_holders v_p0_fairDays_pots v_p0_fairDays_sums v_p0_fairDays_kings v_p0_fairDays_bones v_p0_fairDays_row v_p0_fairDays_bestRow x1) (fun (z7 : Int) (z8 : Int) (z9 : Int) (w10 : (Int → Int)) (w11 : (Int → Int)) (w12 : (Int → Int)) (w13 : (Int → Int)) (w14 : (Int → Int)) (w15 : (Int → Int)) (w16 : (Int → Int)) (w17 : (Int → Int)) => (bnd z7 (fun (z18 : Int) => (if x2 = (0 : Int) then (some (z18, w10, w11, z8, z9, w12, w13, w14, w15, w16, w17)) else (bd1 (f_X11_ofRow 4 w17 x1 (x2 - (10 : Int))) (fun (z19 : Int) => (some (z19, w10, w11, z8, z9, w12, w13, w14, w15, w16, w17))))))))) else (some ((-4 : Int), v_p0_kitchen_places, v_p0_kitchen_holders, i_p0_fairDays_days, i_p0_fairDays_least, v_p0_fairDays_pots, v_p0_fairDays_sums, v_p0_fairDays_kings, v_p0_fairDays_bones, v_p0_fairDays_row, v_p0_fairDays_bestRow))))))))))))))
abbrev rm_X11_fair : Room := { frames := 5, cells := 0, slots := 0, locals := 115 }
theorem inX11_fair_X11 : ∀ w ∈ wsX110, w ∈ wsX11_fair := by decide +kernel
theorem mwX11_fair_1 : Cond.fieldLink RX11 10 "LadleKings" "rules" "LLadleKings$Rules;" ∈ wsX11_fair := by decide +kernel
theorem inX11_fair_X6 : ∀ w ∈ wsX60, w ∈ wsX11_fair := by decide +kernel
theorem mwX11_fair_3 : Cond.fieldLink RX11 133 "LadleKings$Rules" "stirs" "I" ∈ wsX11_fair := by decide +kernel
theorem mwX11_fair_4 : Cond.fieldLink RX11 81 "LadleKings" "fairDays" "LLadleKings$FairDays;" ∈ wsX11_fair := by decide +kernel
theorem inX11_fair_X1 : ∀ w ∈ wsX10, w ∈ wsX11_fair := by decide +kernel
theorem mwX11_fair_6 : Cond.fieldLink RX11 268 "LadleKings$FairDays" "bestRow" "[I" ∈ wsX11_fair := by decide +kernel
set_option maxHeartbeats 8000000 in
set_option maxRecDepth 100000 in
theorem c_X11_fair (l : Launch) (D : va_G) (G : Nat → ClassId) (sz : Nat) (a_p0 : Nat) (a_p0_rules : Nat) (a_p0_state : Nat) (a_p0_tape : Nat) (a_p0_reader : Nat) (a_p0_kitchen : Nat) (a_p0_luck : Nat) (a_p0_plans : Nat) (a_p0_coups : Nat) (a_p0_past : Nat) (a_p0_fairDays : Nat) (a_p0_images : Nat) (a_p0_imageHeld : Nat) (a_p0_sheets : Nat) (a_p0_rules_need : Nat) (a_p0_rules_kind : Nat) (a_p0_rules_first : Nat) (a_p0_rules_second : Nat) (a_p0_rules_after : Nat) (a_p0_state_pieces : Nat) (a_p0_state_friends : Nat) (a_p0_state_spoons : Nat) (a_p0_state_eaten : Nat) (a_p0_state_seen : Nat) (a_p0_kitchen_places : Nat) (a_p0_kitchen_holders : Nat) (a_p0_kitchen_stirred : Nat) (a_p0_fairDays_pots : Nat) (a_p0_fairDays_sums : Nat) (a_p0_fairDays_kings : Nat) (a_p0_fairDays_bones : Nat) (a_p0_fairDays_row : Nat) (a_p0_fairDays_bestRow : Nat) (i_p0_latestFault : Int) (i_p0_latestTear : Int) (i_p0_rules_seats : Int) (i_p0_rules_stirs : Int) (v_p0_rules_after : (Int → Int)) (i_p0_state_seenDays : Int) (i_p0_state_bone : Int) (i_p0_state_king : Int) (i_p0_state_days : Int) (v_p0_state_pieces : (Int → Int)) (v_p0_state_friends : (Int → Int)) (v_p0_kitchen_places : (Int → Int)) (v_p0_kitchen_holders : (Int → Int)) (i_p0_fairDays_days : Int) (i_p0_fairDays_least : Int) (v_p0_fairDays_pots : (Int → Int)) (v_p0_fairDays_sums : (Int → Int)) (v_p0_fairDays_kings : (Int → Int)) (v_p0_fairDays_bones : (Int → Int)) (v_p0_fairDays_row : (Int → Int)) (v_p0_fairDays_bestRow : (Int → Int)) (x1 : Int) (x2 : Int) (r : Int) (o_v_p0_kitchen_places : (Int → Int)) (o_v_p0_kitchen_holders : (Int → Int)) (o_i_p0_fairDays_days : Int) (o_i_p0_fairDays_least : Int) (o_v_p0_fairDays_pots : (Int → Int)) (o_v_p0_fairDays_sums : (Int → Int)) (o_v_p0_fairDays_kings : (Int → Int)) (o_v_p0_fairDays_bones : (Int → Int)) (o_v_p0_fairDays_row : (Int → Int)) (o_v_p0_fairDays_bestRow : (Int → Int)) (hf : f_X11_fair i_p0_rules_seats i_p0_rules_stirs v_p0_rules_after i_p0_state_bone i_p0_state_king v_p0_state_pieces v_p0_state_friends v_p0_kitchen_places v_p0_kitchen_holders i_p0_fairDays_days i_p0_fairDays_least v_p0_fairDays_pots v_p0_fairDays_sums v_p0_fairDays_kings v_p0_fairDays_bones v_p0_fairDays_row v_p0_fairDays_bestRow x1 x2 = some (r, o_v_p0_kitchen_places, o_v_p0_kitchen_holders, o_i_p0_fairDays_days, o_i_p0_fairDays_least, o_v_p0_fairDays_pots, o_v_p0_fairDays_sums, o_v_p0_fairDays_kings, o_v_p0_fairDays_bones, o_v_p0_fairDays_row, o_v_p0_fairDays_bestRow)) : Met l yX11_fair wsX11_fair rm_X11_fair (pcG D G [.ref a_p0, .int (Int32.ofInt x1), .int (Int32.ofInt x2)] sz [(a_p0, .inr (11, [.ref a_p0_rules, .ref a_p0_state, .ref a_p0_tape, .ref a_p0_reader, .ref a_p0_kitchen, .ref a_p0_luck, .ref a_p0_plans, .ref a_p0_coups, .ref a_p0_past, .ref a_p0_fairDays, .ref a_p0_images, .ref a_p0_imageHeld, .ref a_p0_sheets, .int (Int32.ofInt i_p0_latestFault), .int (Int32.ofInt i_p0_latestTear)])), (a_p0_rules, .inr (6, [.int (Int32.ofInt i_p0_rules_seats), .int (Int32.ofInt i_p0_rules_stirs), .ref a_p0_rules_need, .ref a_p0_rules_kind, .ref a_p0_rules_first, .ref a_p0_rules_second, .ref a_p0_rules_after])), (a_p0_rules_after, .inl (G 1, 35, .inl (zA v_p0_rules_after))), (a_p0_state, .inr (8, [.ref a_p0_state_pieces, .ref a_p0_state_friends, .ref a_p0_state_spoons, .ref a_p0_state_eaten, .ref a_p0_state_seen, .int (Int32.ofInt i_p0_state_seenDays), .int (Int32.ofInt i_p0_state_bone), .int (Int32.ofInt i_p0_state_king), .int (Int32.ofInt i_p0_state_days)])), (a_p0_state_pieces, .inl (G 1, 7, .inl (zA v_p0_state_pieces))), (a_p0_state_friends, .inl (G 1, 7, .inl (zA v_p0_state_friends))), (a_p0_kitchen, .inr (2, [.ref a_p0_rules, .ref a_p0_state, .ref a_p0_kitchen_places, .ref a_p0_kitchen_holders, .ref a_p0_kitchen_stirred])), (a_p0_kitchen_places, .inl (G 1, 49, .inl (zA v_p0_kitchen_places))), (a_p0_kitchen_holders, .inl (G 1, 49, .inl (zA v_p0_kitchen_holders))), (a_p0_fairDays, .inr (1, [.ref a_p0_kitchen, .ref a_p0_fairDays_pots, .ref a_p0_fairDays_sums, .ref a_p0_fairDays_kings, .ref a_p0_fairDays_bones, .ref a_p0_fairDays_row, .ref a_p0_fairDays_bestRow, .int (Int32.ofInt i_p0_fairDays_days), .int (Int32.ofInt i_p0_fairDays_least)])), (a_p0_fairDays_pots, .inl (G 1, 35, .inl (zA v_p0_fairDays_pots))), (a_p0_fairDays_sums, .inl (G 1, 35, .inl (zA v_p0_fairDays_sums))), (a_p0_fairDays_kings, .inl (G 1, 5, .inl (zA v_p0_fairDays_kings))), (a_p0_fairDays_bones, .inl (G 1, 5, .inl (zA v_p0_fairDays_bones))), (a_p0_fairDays_row, .inl (G 1, 4, .inl (zA v_p0_fairDays_row))), (a_p0_fairDays_bestRow, .inl (G 1, 4, .inl (zA v_p0_fairDays_bestRow)))]) (qcI D G (Int32.ofInt r) [(a_p0, .inr (11, [.ref a_p0_rules, .ref a_p0_state, .ref a_p0_tape, .ref a_p0_reader, .ref a_p0_kitchen, .ref a_p0_luck, .ref a_p0_plans, .ref a_p0_coups, .ref a_p0_past, .ref a_p0_fairDays, .ref a_p0_images, .ref a_p0_imageHeld, .ref a_p0_sheets, .int (Int32.ofInt i_p0_latestFault), .int (Int32.ofInt i_p0_latestTear)])), (a_p0_rules, .inr (6, [.int (Int32.ofInt i_p0_rules_seats), .int (Int32.ofInt i_p0_rules_stirs), .ref a_p0_rules_need, .ref a_p0_rules_kind, .ref a_p0_rules_first, .ref a_p0_rules_second, .ref a_p0_rules_after])), (a_p0_rules_after, .inl (G 1, 35, .inl (zA v_p0_rules_after))), (a_p0_state, .inr (8, [.ref a_p0_state_pieces, .ref a_p0_state_friends, .ref a_p0_state_spoons, .ref a_p0_state_eaten, .ref a_p0_state_seen, .int (Int32.ofInt i_p0_state_seenDays), .int (Int32.ofInt i_p0_state_bone), .int (Int32.ofInt i_p0_state_king), .int (Int32.ofInt i_p0_state_days)])), (a_p0_state_pieces, .inl (G 1, 7, .inl (zA v_p0_state_pieces))), (a_p0_state_friends, .inl (G 1, 7, .inl (zA v_p0_state_friends))), (a_p0_kitchen, .inr (2, [.ref a_p0_rules, .ref a_p0_state, .ref a_p0_kitchen_places, .ref a_p0_kitchen_holders, .ref a_p0_kitchen_stirred])), (a_p0_kitchen_places, .inl (G 1, 49, .inl (zA o_v_p0_kitchen_places))), (a_p0_kitchen_holders, .inl (G 1, 49, .inl (zA o_v_p0_kitchen_holders))), (a_p0_fairDays, .inr (1, [.ref a_p0_kitchen, .ref a_p0_fairDays_pots, .ref a_p0_fairDays_sums, .ref a_p0_fairDays_kings, .ref a_p0_fairDays_bones, .ref a_p0_fairDays_row, .ref a_p0_fairDays_bestRow, .int (Int32.ofInt o_i_p0_fairDays_days), .int (Int32.ofInt o_i_p0_fairDays_least)])), (a_p0_fairDays_pots, .inl (G 1, 35, .inl (zA o_v_p0_fairDays_pots))), (a_p0_fairDays_sums, .inl (G 1, 35, .inl (zA o_v_p0_fairDays_sums))), (a_p0_fairDays_kings, .inl (G 1, 5, .inl (zA o_v_p0_fairDays_kings))), (a_p0_fairDays_bones, .inl (G 1, 5, .inl (zA o_v_p0_fairDays_bones))), (a_p0_fairDays_row, .inl (G 1, 4, .inl (zA o_v_p0_fairDays_row))), (a_p0_fairDays_bestRow, .inl (G 1, 4, .inl (zA o_v_p0_fairDays_bestRow)))] (va_A [(a_p0, .inr (11, [.ref a_p0_rules, .ref a_p0_state, .ref a_p0_tape, .ref a_p0_reader, .ref a_p0_kitchen, .ref a_p0_luck, .ref a_p0_plans, .ref a_p0_coups, .ref a_p0_past, .ref a_p0_fairDays, .ref a_p0_images, .ref a_p0_imageHeld, .ref a_p0_sheets, .int (Int32.ofInt i_p0_latestFault), .int (Int32.ofInt i_p0_latestTear)])), (a_p0_rules, .inr (6, [.int (Int32.ofInt i_p0_rules_seats), .int (Int32.ofInt i_p0_rules_stirs), .ref a_p0_rules_need, .ref a_p0_rules_kind, .ref a_p0_rules_first, .ref a_p0_rules_second, .ref a_p0_rules_after])), (a_p0_rules_after, .inl (G 1, 35, .inl (zA v_p0_rules_after))), (a_p0_state, .inr (8, [.ref a_p0_state_pieces, .ref a_p0_state_friends, .ref a_p0_state_spoons, .ref a_p0_state_eaten, .ref a_p0_state_seen, .int (Int32.ofInt i_p0_state_seenDays), .int (Int32.ofInt i_p0_state_bone), .int (Int32.ofInt i_p0_state_king), .int (Int32.ofInt i_p0_state_days)])), (a_p0_state_pieces, .inl (G 1, 7, .inl (zA v_p0_state_pieces))), (a_p0_state_friends, .inl (G 1, 7, .inl (zA v_p0_state_friends))), (a_p0_kitchen, .inr (2, [.ref a_p0_rules, .ref a_p0_state, .ref a_p0_kitchen_places, .ref a_p0_kitchen_holders, .ref a_p0_kitchen_stirred])), (a_p0_kitchen_places, .inl (G 1, 49, .inl (zA v_p0_kitchen_places))), (a_p0_kitchen_holders, .inl (G 1, 49, .inl (zA v_p0_kitchen_holders))), (a_p0_fairDays, .inr (1, [.ref a_p0_kitchen, .ref a_p0_fairDays_pots, .ref a_p0_fairDays_sums, .ref a_p0_fairDays_kings, .ref a_p0_fairDays_bones, .ref a_p0_fairDays_row, .ref a_p0_fairDays_bestRow, .int (Int32.ofInt i_p0_fairDays_days), .int (Int32.ofInt i_p0_fairDays_least)])), (a_p0_fairDays_pots, .inl (G 1, 35, .inl (zA v_p0_fairDays_pots))), (a_p0_fairDays_sums, .inl (G 1, 35, .inl (zA v_p0_fairDays_sums))), (a_p0_fairDays_kings, .inl (G 1, 5, .inl (zA v_p0_fairDays_kings))), (a_p0_fairDays_bones, .inl (G 1, 5, .inl (zA v_p0_fairDays_bones))), (a_p0_fairDays_row, .inl (G 1, 4, .inl (zA v_p0_fairDays_row))), (a_p0_fairDays_bestRow, .inl (G 1, 4, .inl (zA v_p0_fairDays_bestRow)))] sz)) 0 0 (va_A [(a_p0, .inr (11, [.ref a_p0_rules, .ref a_p0_state, .ref a_p0_tape, .ref a_p0_reader, .ref a_p0_kitchen, .ref a_p0_luck, .ref a_p0_plans, .ref a_p0_coups, .ref a_p0_past, .ref a_p0_fairDays, .ref a_p0_images, .ref a_p0_imageHeld, .ref a_p0_sheets, .int (Int32.ofInt i_p0_latestFault), .int (Int32.ofInt i_p0_latestTear)])), (a_p0_rules, .inr (6, [.int (Int32.ofInt i_p0_rules_seats), .int (Int32.ofInt i_p0_rules_stirs), .ref a_p0_rules_need, .ref a_p0_rules_kind, .ref a_p0_rules_first, .ref a_p0_rules_second, .ref a_p0_rules_after])), (a_p0_rules_after, .inl (G 1, 35, .inl (zA v_p0_rules_after))), (a_p0_state, .inr (8, [.ref a_p0_state_pieces, .ref a_p0_state_friends, .ref a_p0_state_spoons, .ref a_p0_state_eaten, .ref a_p0_state_seen, .int (Int32.ofInt i_p0_state_seenDays), .int (Int32.ofInt i_p0_state_bone), .int (Int32.ofInt i_p0_state_king), .int (Int32.ofInt i_p0_state_days)])), (a_p0_state_pieces, .inl (G 1, 7, .inl (zA v_p0_state_pieces))), (a_p0_state_friends, .inl (G 1, 7, .inl (zA v_p0_state_friends))), (a_p0_kitchen, .inr (2, [.ref a_p0_rules, .ref a_p0_state, .ref a_p0_kitchen_places, .ref a_p0_kitchen_holders, .ref a_p0_kitchen_stirred])), (a_p0_kitchen_places, .inl (G 1, 49, .inl (zA v_p0_kitchen_places))), (a_p0_kitchen_holders, .inl (G 1, 49, .inl (zA v_p0_kitchen_holders))), (a_p0_fairDays, .inr (1, [.ref a_p0_kitchen, .ref a_p0_fairDays_pots, .ref a_p0_fairDays_sums, .ref a_p0_fairDays_kings, .ref a_p0_fairDays_bones, .ref a_p0_fairDays_row, .ref a_p0_fairDays_bestRow, .int (Int32.ofInt i_p0_fairDays_days), .int (Int32.ofInt i_p0_fairDays_least)])), (a_p0_fairDays_pots, .inl (G 1, 35, .inl (zA v_p0_fairDays_pots))), (a_p0_fairDays_sums, .inl (G 1, 35, .inl (zA v_p0_fairDays_sums))), (a_p0_fairDays_kings, .inl (G 1, 5, .inl (zA v_p0_fairDays_kings))), (a_p0_fairDays_bones, .inl (G 1, 5, .inl (zA v_p0_fairDays_bones))), (a_p0_fairDays_row, .inl (G 1, 4, .inl (zA v_p0_fairDays_row))), (a_p0_fairDays_bestRow, .inl (G 1, 4, .inl (zA v_p0_fairDays_bestRow)))] sz) := by
  refine Met.ofW (cc := cX11_fair) (maxL := 4) (ret := (some .int)) (by decide) rfl ?_
  intro p e s m args below meth c s₁ B hml hv
  obtain ⟨rfl, hsz, hP, hK, hD0⟩ := hv
  have hx := B.exec
  have hb := B.bytes
  have hr := B.returns
  have hts := atoms_spec (ws := wsX11_fair) B.pre
  have hown : s.vm.findClass RX11 = some m.cls := findClass_of_methodNamed B.named
  have hlocks := B.notSynchronized
  subst hsz
  have hD := hD0.self (sz := s.heap.size)
  generalize hAe : va_A [(a_p0, .inr (11, [.ref a_p0_rules, .ref a_p0_state, .ref a_p0_tape, .ref a_p0_reader, .ref a_p0_kitchen, .ref a_p0_luck, .ref a_p0_plans, .ref a_p0_coups, .ref a_p0_past, .ref a_p0_fairDays, .ref a_p0_images, .ref a_p0_imageHeld, .ref a_p0_sheets, .int (Int32.ofInt i_p0_latestFault), .int (Int32.ofInt i_p0_latestTear)])), (a_p0_rules, .inr (6, [.int (Int32.ofInt i_p0_rules_seats), .int (Int32.ofInt i_p0_rules_stirs), .ref a_p0_rules_need, .ref a_p0_rules_kind, .ref a_p0_rules_first, .ref a_p0_rules_second, .ref a_p0_rules_after])), (a_p0_rules_after, .inl (G 1, 35, .inl (zA v_p0_rules_after))), (a_p0_state, .inr (8, [.ref a_p0_state_pieces, .ref a_p0_state_friends, .ref a_p0_state_spoons, .ref a_p0_state_eaten, .ref a_p0_state_seen, .int (Int32.ofInt i_p0_state_seenDays), .int (Int32.ofInt i_p0_state_bone), .int (Int32.ofInt i_p0_state_king), .int (Int32.ofInt i_p0_state_days)])), (a_p0_state_pieces, .inl (G 1, 7, .inl (zA v_p0_state_pieces))), (a_p0_state_friends, .inl (G 1, 7, .inl (zA v_p0_state_friends))), (a_p0_kitchen, .inr (2, [.ref a_p0_rules, .ref a_p0_state, .ref a_p0_kitchen_places, .ref a_p0_kitchen_holders, .ref a_p0_kitchen_stirred])), (a_p0_kitchen_places, .inl (G 1, 49, .inl (zA v_p0_kitchen_places))), (a_p0_kitchen_holders, .inl (G 1, 49, .inl (zA v_p0_kitchen_holders))), (a_p0_fairDays, .inr (1, [.ref a_p0_kitchen, .ref a_p0_fairDays_pots, .ref a_p0_fairDays_sums, .ref a_p0_fairDays_kings, .ref a_p0_fairDays_bones, .ref a_p0_fairDays_row, .ref a_p0_fairDays_bestRow, .int (Int32.ofInt i_p0_fairDays_days), .int (Int32.ofInt i_p0_fairDays_least)])), (a_p0_fairDays_pots, .inl (G 1, 35, .inl (zA v_p0_fairDays_pots))), (a_p0_fairDays_sums, .inl (G 1, 35, .inl (zA v_p0_fairDays_sums))), (a_p0_fairDays_kings, .inl (G 1, 5, .inl (zA v_p0_fairDays_kings))), (a_p0_fairDays_bones, .inl (G 1, 5, .inl (zA v_p0_fairDays_bones))), (a_p0_fairDays_row, .inl (G 1, 4, .inl (zA v_p0_fairDays_row))), (a_p0_fairDays_bestRow, .inl (G 1, 4, .inl (zA v_p0_fairDays_bestRow)))] s.heap.size = A at hD ⊢
  have hA : ∀ q : Nat, s.heap.size ≤ q → A q := fun q h => by rw [← hAe]; exact Or.inr h
  clear hAe hD0
  have hS : va_S A s.heap s.heap [] := va_S.rf
  have hl := lv_entry ([.ref a_p0, .int (Int32.ofInt x1), .int (Int32.ofInt x2)]) (n := 4) (Nat.le_of_ble_eq_true rfl)
  rw [lg_entry_eq]
  generalize (lg_sl ([.ref a_p0, .int (Int32.ofInt x1), .int (Int32.ofInt x2)]) ++ List.replicate (4 - (lg_sl ([.ref a_p0, .int (Int32.ofInt x1), .int (Int32.ofInt x2)])).length) Slot.unset).toArray = ls at hl ⊢
  have hl : lv_has ls 4 [(0, .ref a_p0), (1, .int (Int32.ofInt x1)), (2, .int (Int32.ofInt x2))] := hl
  refine W_nameQ (fun Q hQ => ?_)
  obtain ⟨H, hH⟩ : ∃ H, H = s.heap := ⟨_, rfl⟩
  replace hS : va_S A s.heap H [] := by rw [hH]; exact hS
  replace hP : va_P D vwCl [(a_p0, .inr (11, [.ref a_p0_rules, .ref a_p0_state, .ref a_p0_tape, .ref a_p0_reader, .ref a_p0_kitchen, .ref a_p0_luck, .ref a_p0_plans, .ref a_p0_coups, .ref a_p0_past, .ref a_p0_fairDays, .ref a_p0_images, .ref a_p0_imageHeld, .ref a_p0_sheets, .int (Int32.ofInt i_p0_latestFault), .int (Int32.ofInt i_p0_latestTear)])), (a_p0_rules, .inr (6, [.int (Int32.ofInt i_p0_rules_seats), .int (Int32.ofInt i_p0_rules_stirs), .ref a_p0_rules_need, .ref a_p0_rules_kind, .ref a_p0_rules_first, .ref a_p0_rules_second, .ref a_p0_rules_after])), (a_p0_rules_after, .inl (G 1, 35, .inl (zA v_p0_rules_after))), (a_p0_state, .inr (8, [.ref a_p0_state_pieces, .ref a_p0_state_friends, .ref a_p0_state_spoons, .ref a_p0_state_eaten, .ref a_p0_state_seen, .int (Int32.ofInt i_p0_state_seenDays), .int (Int32.ofInt i_p0_state_bone), .int (Int32.ofInt i_p0_state_king), .int (Int32.ofInt i_p0_state_days)])), (a_p0_state_pieces, .inl (G 1, 7, .inl (zA v_p0_state_pieces))), (a_p0_state_friends, .inl (G 1, 7, .inl (zA v_p0_state_friends))), (a_p0_kitchen, .inr (2, [.ref a_p0_rules, .ref a_p0_state, .ref a_p0_kitchen_places, .ref a_p0_kitchen_holders, .ref a_p0_kitchen_stirred])), (a_p0_kitchen_places, .inl (G 1, 49, .inl (zA v_p0_kitchen_places))), (a_p0_kitchen_holders, .inl (G 1, 49, .inl (zA v_p0_kitchen_holders))), (a_p0_fairDays, .inr (1, [.ref a_p0_kitchen, .ref a_p0_fairDays_pots, .ref a_p0_fairDays_sums, .ref a_p0_fairDays_kings, .ref a_p0_fairDays_bones, .ref a_p0_fairDays_row, .ref a_p0_fairDays_bestRow, .int (Int32.ofInt i_p0_fairDays_days), .int (Int32.ofInt i_p0_fairDays_least)])), (a_p0_fairDays_pots, .inl (G 1, 35, .inl (zA v_p0_fairDays_pots))), (a_p0_fairDays_sums, .inl (G 1, 35, .inl (zA v_p0_fairDays_sums))), (a_p0_fairDays_kings, .inl (G 1, 5, .inl (zA v_p0_fairDays_kings))), (a_p0_fairDays_bones, .inl (G 1, 5, .inl (zA v_p0_fairDays_bones))), (a_p0_fairDays_row, .inl (G 1, 4, .inl (zA v_p0_fairDays_row))), (a_p0_fairDays_bestRow, .inl (G 1, 4, .inl (zA v_p0_fairDays_bestRow)))] H := by rw [hH]; exact hP
  rw [← hH]
  clear hH
  unfold f_X11_fair at hf
  refine lv_iload_n hx hb dX11_fair_0 rfl (lv_at hl 1 rfl) ?_
  refine lv_iconst (v := Int32.ofInt (1 : Int)) hx hb dX11_fair_1 (by decide) ?_
  have hr0 := ck_c hf
  replace hf := ck_r hf
  refine lv_icmp_lt (tgt := 18) hx hb dX11_fair_2 (by decide) (fun cc => ?_) (fun cc => ?_)
  ·
    replace hf := ite_t ((z_lt hr0 (by decide)).mp cc) hf
    clear cc
    refine lv_iconst (v := Int32.ofInt (-1 : Int)) hx hb dX11_fair_18 (by decide) ?_
    obtain ⟨rfl, rfl, rfl, rfl, rfl, rfl, rfl, rfl, rfl, rfl, rfl⟩ := ou11 hf
    rw [hQ]
    exact W.iret hx hb hr (fun t ht hW => ⟨⟨_, (), rfl, rfl, by rw [ht]; exact hP, va_K.moved hW.alike hK, hD⟩, hS.F ht⟩) hS.2.2 dX11_fair_19
  ·
    replace hf := ite_f (fun h9 => cc ((z_lt hr0 (by decide)).mpr h9)) hf
    clear cc
    refine lv_iload_n hx hb dX11_fair_5 rfl (lv_at hl 1 rfl) ?_
    refine lv_iconst (v := Int32.ofInt (4 : Int)) hx hb dX11_fair_6 (by decide) ?_
    refine lv_icmp_gt (tgt := 18) hx hb dX11_fair_7 (by decide) (fun cc => ?_) (fun cc => ?_)
    ·
      replace hf := ite_t ((z_lt (by decide) hr0).mp cc) hf
      clear cc
      refine lv_iconst (v := Int32.ofInt (-1 : Int)) hx hb dX11_fair_18 (by decide) ?_
      obtain ⟨rfl, rfl, rfl, rfl, rfl, rfl, rfl, rfl, rfl, rfl, rfl⟩ := ou11 hf
      rw [hQ]
      exact W.iret hx hb hr (fun t ht hW => ⟨⟨_, (), rfl, rfl, by rw [ht]; exact hP, va_K.moved hW.alike hK, hD⟩, hS.F ht⟩) hS.2.2 dX11_fair_19
    ·
      replace hf := ite_f (fun h9 => cc ((z_lt (by decide) hr0).mpr h9)) hf
      clear cc
      refine lv_iload_n hx hb dX11_fair_10 rfl (lv_at hl 2 rfl) ?_
      refine lv_iconst (v := Int32.ofInt (4 : Int)) hx hb dX11_fair_11 (by decide) ?_
      have hq := bd1_s hf
      clear hf
      obtain ⟨z2, hcall, hf⟩ := hq
      refine gcI (ws' := [(a_p0, .inr (11, [.ref a_p0_rules, .ref a_p0_state, .ref a_p0_tape, .ref a_p0_reader, .ref a_p0_kitchen, .ref a_p0_luck, .ref a_p0_plans, .ref a_p0_coups, .ref a_p0_past, .ref a_p0_fairDays, .ref a_p0_images, .ref a_p0_imageHeld, .ref a_p0_sheets, .int (Int32.ofInt i_p0_latestFault), .int (Int32.ofInt i_p0_latestTear)])), (a_p0_rules, .inr (6, [.int (Int32.ofInt i_p0_rules_seats), .int (Int32.ofInt i_p0_rules_stirs), .ref a_p0_rules_need, .ref a_p0_rules_kind, .ref a_p0_rules_first, .ref a_p0_rules_second, .ref a_p0_rules_after])), (a_p0_rules_after, .inl (G 1, 35, .inl (zA v_p0_rules_after))), (a_p0_state, .inr (8, [.ref a_p0_state_pieces, .ref a_p0_state_friends, .ref a_p0_state_spoons, .ref a_p0_state_eaten, .ref a_p0_state_seen, .int (Int32.ofInt i_p0_state_seenDays), .int (Int32.ofInt i_p0_state_bone), .int (Int32.ofInt i_p0_state_king), .int (Int32.ofInt i_p0_state_days)])), (a_p0_state_pieces, .inl (G 1, 7, .inl (zA v_p0_state_pieces))), (a_p0_state_friends, .inl (G 1, 7, .inl (zA v_p0_state_friends))), (a_p0_kitchen, .inr (2, [.ref a_p0_rules, .ref a_p0_state, .ref a_p0_kitchen_places, .ref a_p0_kitchen_holders, .ref a_p0_kitchen_stirred])), (a_p0_kitchen_places, .inl (G 1, 49, .inl (zA v_p0_kitchen_places))), (a_p0_kitchen_holders, .inl (G 1, 49, .inl (zA v_p0_kitchen_holders))), (a_p0_fairDays, .inr (1, [.ref a_p0_kitchen, .ref a_p0_fairDays_pots, .ref a_p0_fairDays_sums, .ref a_p0_fairDays_kings, .ref a_p0_fairDays_bones, .ref a_p0_fairDays_row, .ref a_p0_fairDays_bestRow, .int (Int32.ofInt i_p0_fairDays_days), .int (Int32.ofInt i_p0_fairDays_least)])), (a_p0_fairDays_pots, .inl (G 1, 35, .inl (zA v_p0_fairDays_pots))), (a_p0_fairDays_sums, .inl (G 1, 35, .inl (zA v_p0_fairDays_sums))), (a_p0_fairDays_kings, .inl (G 1, 5, .inl (zA v_p0_fairDays_kings))), (a_p0_fairDays_bones, .inl (G 1, 5, .inl (zA v_p0_fairDays_bones))), (a_p0_fairDays_row, .inl (G 1, 4, .inl (zA v_p0_fairDays_row))), (a_p0_fairDays_bestRow, .inl (G 1, 4, .inl (zA v_p0_fairDays_bestRow)))]) (va_runS (As := [.int (Int32.ofInt x2), .int (Int32.ofInt (4 : Int))]) (rest := []) ⟨hx, hb, hml, hown, hts⟩ (c_X11_isRowQuestion (l := l) (D := D) (G := G) (sz := H.size) (x0 := x2) (x1 := (4 : Int)) (r := z2) (hf := hcall)) (va_cwS 2 hts gX11_fair_X11_isRowQuestion rfl rfl rfl (by decide +kernel) ⟨Nat.le_of_ble_eq_true rfl, Nat.le_of_ble_eq_true rfl⟩) (preG_S (hP.sub [] rfl) (hD.sub [] rfl rfl) hK) rfl rfl hl.1 rfl (lv_room (Nat.le_of_ble_eq_true rfl)) dX11_fair_12 ⟨Nat.le_of_ble_eq_true rfl, Nat.le_of_ble_eq_true rfl⟩) hP hD hS hA [] [0, 1, 2, 3, 4, 5, 6, 7, 8, 9, 10, 11, 12, 13, 14, 15] [0, 1, 2, 3, 4, 5, 6, 7, 8, 9, 10, 11, 12, 13, 14, 15] rfl rfl rfl (by decide) rfl rfl rfl (fun H locs hP hD hS => ?_)
      clear hcall
      have hr2 := ck_c hf
      replace hf := ck_r hf
      refine lv_if_ne (tgt := 20) hx hb dX11_fair_15 (by decide) (fun cc => ?_) (fun cc => ?_)
      ·
        replace hf := ite_f (fun h9 => cc ((z_eq0 hr2).mpr h9)) hf
        clear cc
        refine lv_aload_n hx hb dX11_fair_20 rfl (lv_at hl 0 rfl) ?_
        refine va_get (D := D) (ci := 11) (v := .ref a_p0_rules) (C := RX11) (T := TX11) (N := 15) hx hb hts inX11_fair_X11 hown hK hP 0 rfl rfl 0 (by decide) (hts _ mwX11_fair_1) (fun _ h9 => h9) rfl dX11_fair_21 ?_
        refine va_get (D := D) (ci := 6) (v := .int (Int32.ofInt i_p0_rules_stirs)) (C := RX6) (T := TX6) (N := 7) hx hb hts inX11_fair_X6 hown hK hP 1 rfl rfl 1 (by decide) (hts _ mwX11_fair_3) (fun _ h9 => h9) rfl dX11_fair_24 ?_
        have hr3 := ck_c hf
        replace hf := ck_r hf
        refine lv_if_ne (tgt := 33) hx hb dX11_fair_27 (by decide) (fun cc => ?_) (fun cc => ?_)
        ·
          replace hf := ite_f (fun h9 => cc ((z_eq0 hr3).mpr h9)) hf
          clear cc
          refine lv_iload_n hx hb dX11_fair_33 rfl (lv_at hl 2 rfl) ?_
          refine lv_bipush (v := Int32.ofInt (10 : Int)) hx hb dX11_fair_34 (by decide) ?_
          refine lv_iload_n hx hb dX11_fair_36 rfl (lv_at hl 1 rfl) ?_
          refine lv_iadd hx hb dX11_fair_37 (z_ci (Int32.ofInt_add (10 : Int) x1) ?_)
          have hr4 := ck_c hf
          replace hf := ck_r hf
          have hr5 := ck_c hf
          replace hf := ck_r hf
          refine lv_icmp_lt (tgt := 44) hx hb dX11_fair_38 (by decide) (fun cc => ?_) (fun cc => ?_)
          ·
            replace hf := ite_t ((z_lt hr4 hr5).mp cc) hf
            clear cc
            refine lv_aload_n hx hb dX11_fair_44 rfl (lv_at hl 0 rfl) ?_
            refine va_get (D := D) (ci := 11) (v := .ref a_p0_fairDays) (C := RX11) (T := TX11) (N := 15) hx hb hts inX11_fair_X11 hown hK hP 0 rfl rfl 9 (by decide) (hts _ mwX11_fair_4) (fun _ h9 => h9) rfl dX11_fair_45 ?_
            refine lv_iload_n hx hb dX11_fair_48 rfl (lv_at hl 1 rfl) ?_
            have hq := bd11_s hf
            clear hf
            obtain ⟨z7, z8, z9, w10, w11, w12, w13, w14, w15, w16, w17, hcall, hf⟩ := hq
            refine gcI (ws' := [(a_p0, .inr (11, [.ref a_p0_rules, .ref a_p0_state, .ref a_p0_tape, .ref a_p0_reader, .ref a_p0_kitchen, .ref a_p0_luck, .ref a_p0_plans, .ref a_p0_coups, .ref a_p0_past, .ref a_p0_fairDays, .ref a_p0_images, .ref a_p0_imageHeld, .ref a_p0_sheets, .int (Int32.ofInt i_p0_latestFault), .int (Int32.ofInt i_p0_latestTear)])), (a_p0_rules, .inr (6, [.int (Int32.ofInt i_p0_rules_seats), .int (Int32.ofInt i_p0_rules_stirs), .ref a_p0_rules_need, .ref a_p0_rules_kind, .ref a_p0_rules_first, .ref a_p0_rules_second, .ref a_p0_rules_after])), (a_p0_rules_after, .inl (G 1, 35, .inl (zA v_p0_rules_after))), (a_p0_state, .inr (8, [.ref a_p0_state_pieces, .ref a_p0_state_friends, .ref a_p0_state_spoons, .ref a_p0_state_eaten, .ref a_p0_state_seen, .int (Int32.ofInt i_p0_state_seenDays), .int (Int32.ofInt i_p0_state_bone), .int (Int32.ofInt i_p0_state_king), .int (Int32.ofInt i_p0_state_days)])), (a_p0_state_pieces, .inl (G 1, 7, .inl (zA v_p0_state_pieces))), (a_p0_state_friends, .inl (G 1, 7, .inl (zA v_p0_state_friends))), (a_p0_kitchen, .inr (2, [.ref a_p0_rules, .ref a_p0_state, .ref a_p0_kitchen_places, .ref a_p0_kitchen_holders, .ref a_p0_kitchen_stirred])), (a_p0_kitchen_places, .inl (G 1, 49, .inl (zA w10))), (a_p0_kitchen_holders, .inl (G 1, 49, .inl (zA w11))), (a_p0_fairDays, .inr (1, [.ref a_p0_kitchen, .ref a_p0_fairDays_pots, .ref a_p0_fairDays_sums, .ref a_p0_fairDays_kings, .ref a_p0_fairDays_bones, .ref a_p0_fairDays_row, .ref a_p0_fairDays_bestRow, .int (Int32.ofInt z8), .int (Int32.ofInt z9)])), (a_p0_fairDays_pots, .inl (G 1, 35, .inl (zA w12))), (a_p0_fairDays_sums, .inl (G 1, 35, .inl (zA w13))), (a_p0_fairDays_kings, .inl (G 1, 5, .inl (zA w14))), (a_p0_fairDays_bones, .inl (G 1, 5, .inl (zA w15))), (a_p0_fairDays_row, .inl (G 1, 4, .inl (zA w16))), (a_p0_fairDays_bestRow, .inl (G 1, 4, .inl (zA w17)))]) (va_runV (As := [.int (Int32.ofInt x1)]) (rest := []) ⟨hx, hb, hml, hown, hts⟩ (c_X1_leastSpread (l := l) (D := D) (G := G) (sz := H.size) (a_p0 := a_p0_fairDays) (a_p0_kitchen := a_p0_kitchen) (a_p0_pots := a_p0_fairDays_pots) (a_p0_sums := a_p0_fairDays_sums) (a_p0_kings := a_p0_fairDays_kings) (a_p0_bones := a_p0_fairDays_bones) (a_p0_row := a_p0_fairDays_row) (a_p0_bestRow := a_p0_fairDays_bestRow) (a_p0_kitchen_rules := a_p0_rules) (a_p0_kitchen_state := a_p0_state) (a_p0_kitchen_places := a_p0_kitchen_places) (a_p0_kitchen_holders := a_p0_kitchen_holders) (a_p0_kitchen_stirred := a_p0_kitchen_stirred) (a_p0_kitchen_rules_need := a_p0_rules_need) (a_p0_kitchen_rules_kind := a_p0_rules_kind) (a_p0_kitchen_rules_first := a_p0_rules_first) (a_p0_kitchen_rules_second := a_p0_rules_second) (a_p0_kitchen_rules_after := a_p0_rules_after) (a_p0_kitchen_state_pieces := a_p0_state_pieces) (a_p0_kitchen_state_friends := a_p0_state_friends) (a_p0_kitchen_state_spoons := a_p0_state_spoons) (a_p0_kitchen_state_eaten := a_p0_state_eaten) (a_p0_kitchen_state_seen := a_p0_state_seen) (i_p0_days := i_p0_fairDays_days) (i_p0_least := i_p0_fairDays_least) (i_p0_kitchen_rules_seats := i_p0_rules_seats) (i_p0_kitchen_rules_stirs := i_p0_rules_stirs) (v_p0_kitchen_rules_after := v_p0_rules_after) (i_p0_kitchen_state_seenDays := i_p0_state_seenDays) (i_p0_kitchen_state_bone := i_p0_state_bone) (i_p0_kitchen_state_king := i_p0_state_king) (i_p0_kitchen_state_days := i_p0_state_days) (v_p0_kitchen_state_pieces := v_p0_state_pieces) (v_p0_kitchen_state_friends := v_p0_state_friends) (v_p0_kitchen_places := v_p0_kitchen_places) (v_p0_kitchen_holders := v_p0_kitchen_holders) (v_p0_pots := v_p0_fairDays_pots) (v_p0_sums := v_p0_fairDays_sums) (v_p0_kings := v_p0_fairDays_kings) (v_p0_bones := v_p0_fairDays_bones) (v_p0_row := v_p0_fairDays_row) (v_p0_bestRow := v_p0_fairDays_bestRow) (x1 := x1) (r := z7) (o_i_p0_days := z8) (o_i_p0_least := z9) (o_v_p0_kitchen_places := w10) (o_v_p0_kitchen_holders := w11) (o_v_p0_pots := w12) (o_v_p0_sums := w13) (o_v_p0_kings := w14) (o_v_p0_bones := w15) (o_v_p0_row := w16) (o_v_p0_bestRow := w17) (hf := hcall)) (cwV 1 hts gX11_fair_X1_leastSpread rfl rfl rfl (by decide +kernel) ⟨Nat.le_of_ble_eq_true rfl, Nat.le_of_ble_eq_true rfl⟩) (preG_V (ci := 1) (hP.sub [9, 6, 1, 2, 3, 4, 5, 7, 8, 10, 11, 12, 13, 14, 15] rfl) (hD.sub [9, 6, 1, 2, 3, 4, 5, 7, 8, 10, 11, 12, 13, 14, 15] rfl rfl) hK rfl rfl) rfl rfl hl.1 rfl (lv_room (Nat.le_of_ble_eq_true rfl)) dX11_fair_49 ⟨Nat.le_of_ble_eq_true rfl, Nat.le_of_ble_eq_true rfl⟩) hP hD hS hA [9, 6, 1, 2, 3, 4, 5, 7, 8, 10, 11, 12, 13, 14, 15] [0] [0, 3, 4, 5, 6, 7, 2, 8, 9, 1, 10, 11, 12, 13, 14, 15] rfl rfl rfl (by decide) rfl rfl rfl (fun H locs hP hD hS => ?_)
            clear hcall
            refine z_topi (fun z18 ez => ?_)
            replace hf := bnd_s hf ez
            clear ez
            refine lv_istore_n (lv' := [(3, .int (Int32.ofInt z18)), (0, .ref a_p0), (1, .int (Int32.ofInt x1)), (2, .int (Int32.ofInt x2))]) hx hb dX11_fair_52 rfl hl (by decide) rfl (fun ls hl => ?_)
            refine lv_iload_n hx hb dX11_fair_53 rfl (lv_at hl 3 rfl) ?_
            refine lv_if_ne (tgt := 61) hx hb dX11_fair_54 (by decide) (fun cc => ?_) (fun cc => ?_)
            ·
              replace hf := ite_f (fun h9 => cc ((z_eq0 hr4).mpr h9)) hf
              clear cc
              refine lv_aload_n hx hb dX11_fair_61 rfl (lv_at hl 1 rfl) ?_
              refine va_get (D := D) (ci := 11) (v := .ref a_p0_fairDays) (C := RX11) (T := TX11) (N := 15) hx hb hts inX11_fair_X11 hown hK hP 0 rfl rfl 9 (by decide) (hts _ mwX11_fair_4) (fun _ h9 => h9) rfl dX11_fair_62 ?_
              refine va_get (D := D) (ci := 1) (v := .ref a_p0_fairDays_bestRow) (C := RX1) (T := TX1) (N := 9) hx hb hts inX11_fair_X1 hown hK hP 9 rfl rfl 6 (by decide) (hts _ mwX11_fair_6) (fun _ h9 => h9) rfl dX11_fair_65 ?_
              refine lv_iload_n hx hb dX11_fair_68 rfl (lv_at hl 2 rfl) ?_
              refine lv_iload_n hx hb dX11_fair_69 rfl (lv_at hl 3 rfl) ?_
              refine lv_bipush (v := Int32.ofInt (10 : Int)) hx hb dX11_fair_70 (by decide) ?_
              refine lv_isub hx hb dX11_fair_72 (z_ci (Int32.ofInt_sub x2 (10 : Int)) ?_)
              have hq := bd1_s hf
              clear hf
              obtain ⟨z19, hcall, hf⟩ := hq
              refine gcI (ws' := [(a_p0, .inr (11, [.ref a_p0_rules, .ref a_p0_state, .ref a_p0_tape, .ref a_p0_reader, .ref a_p0_kitchen, .ref a_p0_luck, .ref a_p0_plans, .ref a_p0_coups, .ref a_p0_past, .ref a_p0_fairDays, .ref a_p0_images, .ref a_p0_imageHeld, .ref a_p0_sheets, .int (Int32.ofInt i_p0_latestFault), .int (Int32.ofInt i_p0_latestTear)])), (a_p0_rules, .inr (6, [.int (Int32.ofInt i_p0_rules_seats), .int (Int32.ofInt i_p0_rules_stirs), .ref a_p0_rules_need, .ref a_p0_rules_kind, .ref a_p0_rules_first, .ref a_p0_rules_second, .ref a_p0_rules_after])), (a_p0_rules_after, .inl (G 1, 35, .inl (zA v_p0_rules_after))), (a_p0_state, .inr (8, [.ref a_p0_state_pieces, .ref a_p0_state_friends, .ref a_p0_state_spoons, .ref a_p0_state_eaten, .ref a_p0_state_seen, .int (Int32.ofInt i_p0_state_seenDays), .int (Int32.ofInt i_p0_state_bone), .int (Int32.ofInt i_p0_state_king), .int (Int32.ofInt i_p0_state_days)])), (a_p0_state_pieces, .inl (G 1, 7, .inl (zA v_p0_state_pieces))), (a_p0_state_friends, .inl (G 1, 7, .inl (zA v_p0_state_friends))), (a_p0_kitchen, .inr (2, [.ref a_p0_rules, .ref a_p0_state, .ref a_p0_kitchen_places, .ref a_p0_kitchen_holders, .ref a_p0_kitchen_stirred])), (a_p0_kitchen_places, .inl (G 1, 49, .inl (zA w10))), (a_p0_kitchen_holders, .inl (G 1, 49, .inl (zA w11))), (a_p0_fairDays, .inr (1, [.ref a_p0_kitchen, .ref a_p0_fairDays_pots, .ref a_p0_fairDays_sums, .ref a_p0_fairDays_kings, .ref a_p0_fairDays_bones, .ref a_p0_fairDays_row, .ref a_p0_fairDays_bestRow, .int (Int32.ofInt z8), .int (Int32.ofInt z9)])), (a_p0_fairDays_pots, .inl (G 1, 35, .inl (zA w12))), (a_p0_fairDays_sums, .inl (G 1, 35, .inl (zA w13))), (a_p0_fairDays_kings, .inl (G 1, 5, .inl (zA w14))), (a_p0_fairDays_bones, .inl (G 1, 5, .inl (zA w15))), (a_p0_fairDays_row, .inl (G 1, 4, .inl (zA w16))), (a_p0_fairDays_bestRow, .inl (G 1, 4, .inl (zA w17)))]) (va_runS (As := [.ref a_p0_fairDays_bestRow, .int (Int32.ofInt x1), .int (Int32.ofInt (x2 - (10 : Int)))]) (rest := []) ⟨hx, hb, hml, hown, hts⟩ (c_X11_ofRow (l := l) (D := D) (G := G) (sz := H.size) (a_p0 := a_p0_fairDays_bestRow) (n_p0 := 4) (v_p0 := w17) (x1 := x1) (x2 := (x2 - (10 : Int))) (r := z19) (hf := hcall)) (va_cwS 3 hts gX11_fair_X11_ofRow rfl rfl rfl (by decide +kernel) ⟨Nat.le_of_ble_eq_true rfl, Nat.le_of_ble_eq_true rfl⟩) (preG_S (hP.sub [15] rfl) (hD.sub [15] rfl rfl) hK) rfl rfl hl.1 rfl (lv_room (Nat.le_of_ble_eq_true rfl)) dX11_fair_73 ⟨Nat.le_of_ble_eq_true rfl, Nat.le_of_ble_eq_true rfl⟩) hP hD hS hA [15] [0, 1, 2, 3, 4, 5, 6, 7, 8, 9, 10, 11, 12, 13, 14] [0, 1, 2, 3, 4, 5, 6, 7, 8, 9, 10, 11, 12, 13, 14, 15] rfl rfl rfl (by decide) rfl rfl rfl (fun H locs hP hD hS => ?_)
              clear hcall
              obtain ⟨rfl, rfl, rfl, rfl, rfl, rfl, rfl, rfl, rfl, rfl, rfl⟩ := ou11 hf
              rw [hQ]
              exact W.iret hx hb hr (fun t ht hW => ⟨⟨_, (), rfl, rfl, by rw [ht]; exact hP, va_K.moved hW.alike hK, hD⟩, hS.F ht⟩) hS.2.2 dX11_fair_76
            ·
              replace hf := ite_t ((z_eq0 hr4).mp cc) hf
              clear cc
              refine lv_iload_n hx hb dX11_fair_57 rfl (lv_at hl 0 rfl) ?_
              refine lv_goto (tgt := 76) hx hb dX11_fair_58 (by decide) ?_
              obtain ⟨rfl, rfl, rfl, rfl, rfl, rfl, rfl, rfl, rfl, rfl, rfl⟩ := ou11 hf
              rw [hQ]
              exact W.iret hx hb hr (fun t ht hW => ⟨⟨_, (), rfl, rfl, by rw [ht]; exact hP, va_K.moved hW.alike hK, hD⟩, hS.F ht⟩) hS.2.2 dX11_fair_76
          ·
            replace hf := ite_f (fun h9 => cc ((z_lt hr4 hr5).mpr h9)) hf
            clear cc
            refine lv_bipush (v := Int32.ofInt (-4 : Int)) hx hb dX11_fair_41 (by decide) ?_
            obtain ⟨rfl, rfl, rfl, rfl, rfl, rfl, rfl, rfl, rfl, rfl, rfl⟩ := ou11 hf
            rw [hQ]
            exact W.iret hx hb hr (fun t ht hW => ⟨⟨_, (), rfl, rfl, by rw [ht]; exact hP, va_K.moved hW.alike hK, hD⟩, hS.F ht⟩) hS.2.2 dX11_fair_43
        ·
          replace hf := ite_t ((z_eq0 hr3).mp cc) hf
          clear cc
          refine lv_bipush (v := Int32.ofInt (-2 : Int)) hx hb dX11_fair_30 (by decide) ?_
          obtain ⟨rfl, rfl, rfl, rfl, rfl, rfl, rfl, rfl, rfl, rfl, rfl⟩ := ou11 hf
          rw [hQ]
          exact W.iret hx hb hr (fun t ht hW => ⟨⟨_, (), rfl, rfl, by rw [ht]; exact hP, va_K.moved hW.alike hK, hD⟩, hS.F ht⟩) hS.2.2 dX11_fair_32
      ·
        replace hf := ite_t ((z_eq0 hr2).mp cc) hf
        clear cc
        refine lv_iconst (v := Int32.ofInt (-1 : Int)) hx hb dX11_fair_18 (by decide) ?_
        obtain ⟨rfl, rfl, rfl, rfl, rfl, rfl, rfl, rfl, rfl, rfl, rfl⟩ := ou11 hf
        rw [hQ]
        exact W.iret hx hb hr (fun t ht hW => ⟨⟨_, (), rfl, rfl, by rw [ht]; exact hP, va_K.moved hW.alike hK, hD⟩, hS.F ht⟩) hS.2.2 dX11_fair_19

noncomputable def f_X11_isImage (x0 : Int) : Option (Int) := (ck (z_r32 x0) (if x0 < (0 : Int) then (some (0 : Int)) else (if (2 : Int) ≤ x0 then (some (0 : Int)) else (some (1 : Int)))))
abbrev rm_X11_isImage : Room := { frames := 0, cells := 0, slots := 0, locals := 0 }
set_option maxHeartbeats 8000000 in
set_option maxRecDepth 100000 in
theorem c_X11_isImage (l : Launch) (D : va_G) (G : Nat → ClassId) (sz : Nat) (x0 : Int) (r : Int) (hf : f_X11_isImage x0 = some r) : Met l yX11_isImage wsX11_isImage rm_X11_isImage (pcG D G [.int (Int32.ofInt x0)] sz []) (qcI D G (Int32.ofInt r) [] (va_A [] sz)) 0 0 (va_A [] sz) := by
  refine Met.ofW (cc := cX11_isImage) (maxL := 1) (ret := (some .boolean)) (by decide) rfl ?_
  intro p e s m args below meth c s₁ B hml hv
  obtain ⟨rfl, hsz, hP, hK, hD0⟩ := hv
  have hx := B.exec
  have hb := B.bytes
  have hr := B.returns
  have hts := atoms_spec (ws := wsX11_isImage) B.pre
  have hown : s.vm.findClass RX11 = some m.cls := findClass_of_methodNamed B.named
  have hlocks := B.notSynchronized
  subst hsz
  have hD := hD0.self (sz := s.heap.size)
  generalize hAe : va_A [] s.heap.size = A at hD ⊢
  have hA : ∀ q : Nat, s.heap.size ≤ q → A q := fun q h => by rw [← hAe]; exact Or.inr h
  clear hAe hD0
  have hS : va_S A s.heap s.heap [] := va_S.rf
  have hl := lv_entry ([.int (Int32.ofInt x0)]) (n := 1) (Nat.le_of_ble_eq_true rfl)
  rw [lg_entry_eq]
  generalize (lg_sl ([.int (Int32.ofInt x0)]) ++ List.replicate (1 - (lg_sl ([.int (Int32.ofInt x0)])).length) Slot.unset).toArray = ls at hl ⊢
  have hl : lv_has ls 1 [(0, .int (Int32.ofInt x0))] := hl
  refine W_nameQ (fun Q hQ => ?_)
  obtain ⟨H, hH⟩ : ∃ H, H = s.heap := ⟨_, rfl⟩
  replace hS : va_S A s.heap H [] := by rw [hH]; exact hS
  replace hP : va_P D vwCl [] H := by rw [hH]; exact hP
  rw [← hH]
  clear hH
  unfold f_X11_isImage at hf
  refine lv_iload_n hx hb dX11_isImage_0 rfl (lv_at hl 0 rfl) ?_
  have hr0 := ck_c hf
  replace hf := ck_r hf
  refine lv_if_lt (tgt := 13) hx hb dX11_isImage_1 (by decide) (fun cc => ?_) (fun cc => ?_)
  ·
    replace hf := ite_t ((z_lt0 hr0).mp cc) hf
    clear cc
    refine lv_iconst (v := Int32.ofInt (0 : Int)) hx hb dX11_isImage_13 (by decide) ?_
    obtain rfl := ou1 hf
    rw [hQ]
    exact W.zret hx hb hr rfl (fun t ht hW => ⟨⟨_, (), rfl, rfl, by rw [ht]; exact hP, va_K.moved hW.alike hK, hD⟩, hS.F ht⟩) hS.2.2 dX11_isImage_14
  ·
    replace hf := ite_f (fun h9 => cc ((z_lt0 hr0).mpr h9)) hf
    clear cc
    refine lv_iload_n hx hb dX11_isImage_4 rfl (lv_at hl 0 rfl) ?_
    refine lv_iconst (v := Int32.ofInt (2 : Int)) hx hb dX11_isImage_5 (by decide) ?_
    refine lv_icmp_ge (tgt := 13) hx hb dX11_isImage_6 (by decide) (fun cc => ?_) (fun cc => ?_)
    ·
      replace hf := ite_t ((z_le (by decide) hr0).mp cc) hf
      clear cc
      refine lv_iconst (v := Int32.ofInt (0 : Int)) hx hb dX11_isImage_13 (by decide) ?_
      obtain rfl := ou1 hf
      rw [hQ]
      exact W.zret hx hb hr rfl (fun t ht hW => ⟨⟨_, (), rfl, rfl, by rw [ht]; exact hP, va_K.moved hW.alike hK, hD⟩, hS.F ht⟩) hS.2.2 dX11_isImage_14
    ·
      replace hf := ite_f (fun h9 => cc ((z_le (by decide) hr0).mpr h9)) hf
      clear cc
      refine lv_iconst (v := Int32.ofInt (1 : Int)) hx hb dX11_isImage_9 (by decide) ?_
      refine lv_goto (tgt := 14) hx hb dX11_isImage_10 (by decide) ?_
      obtain rfl := ou1 hf
      rw [hQ]
      exact W.zret hx hb hr rfl (fun t ht hW => ⟨⟨_, (), rfl, rfl, by rw [ht]; exact hP, va_K.moved hW.alike hK, hD⟩, hS.F ht⟩) hS.2.2 dX11_isImage_14

noncomputable def f_X11_keep (i_p0_state_seenDays : Int) (i_p0_state_bone : Int) (i_p0_state_king : Int) (i_p0_state_days : Int) (v_p0_state_pieces : (Int → Int)) (v_p0_state_friends : (Int → Int)) (v_p0_state_spoons : (Int → Int)) (v_p0_state_eaten : (Int → Int)) (v_p0_state_seen : (Int → Int)) (i_p0_images_0_seenDays : Int) (i_p0_images_0_bone : Int) (i_p0_images_0_king : Int) (i_p0_images_0_days : Int) (v_p0_images_0_pieces : (Int → Int)) (v_p0_images_0_friends : (Int → Int)) (v_p0_images_0_spoons : (Int → Int)) (v_p0_images_0_eaten : (Int → Int)) (v_p0_images_0_seen : (Int → Int)) (i_p0_images_1_seenDays : Int) (i_p0_images_1_bone : Int) (i_p0_images_1_king : Int) (i_p0_images_1_days : Int) (v_p0_images_1_pieces : (Int → Int)) (v_p0_images_1_friends : (Int → Int)) (v_p0_images_1_spoons : (Int → Int)) (v_p0_images_1_eaten : (Int → Int)) (v_p0_images_1_seen : (Int → Int)) (v_p0_imageHeld : (Int → Int)) (x1 : Int) : Option (Int × Int × Int × Int × Int × (Int → Int) × (Int → Int) × (Int → Int) × (Int → Int) × (Int → Int) × Int × Int × Int × Int × (Int → Int) × (Int → Int) × (Int → Int) × (Int → Int) × (Int → Int) × (Int → Int)) := (bd1 (f_X11_isImage x1) (fun (z1 : Int) => (ck (z_r32 z1) (if z1 = (0 : Int) then (some ((-1 : Int), i_p0_images_0_seenDays, i_p0_images_0_bone, i_p0_images_0_king, i_p0_images_0_days, v_p0_images_0_pieces, v_p0_images_0_friends, v_p0_images_0_spoons, v_p0_images_0_eaten, v_p0_images_0_seen, i_p0_images_1_seenDays, i_p0_images_1_bone, i_p0_images_1_king, i_p0_images_1_days, v_p0_images_1_pieces, v_p0_images_1_friends, v_p0_images_1_spoons, v_p0_images_1_eaten, v_p0_images_1_seen, v_p0_imageHeld)) else (ck (z_ix x1 2) (ck (z_r32 (v_p0_imageHeld x1)) (jn (fun (z4 : Int) => (bnd z4 (fun (z6 : Int) => (ck (z_ix x1 2) (if x1 = (0 : Int) then (bd9 (f_X8_copy v_p0_images_0_pieces v_p0_images_0_friends v_p0_images_0_spoons v_p0_images_0_eaten v_p0_images_0_seen i_p0_state_seenDays i_p0_state_bone i_p0_state_king i_p0_state_days v_p0_state_pieces v_p0_state_friends v_p0_state_spoons v_p0_state_eaten v_p0_state_seen) (fun (z7 : Int) (z8 : Int) (z9 : Int) (z10 : Int) (w11 : (Int → Int)) (w12 : (Int → Int)) (w13 : (Int → Int)) (w14 : (Int → Int)) (w15 : (Int → Int)) => (ck (z_ix x1 2) (ck (z_bB (1 : Int)) (bnd (z_up v_p0_imageHeld x1 (1 : Int)) (fun (w16 : (Int → Int)) => (some (z6, z7, z8, z9, z10, w11, w12, w13, w14, w15, i_p0_images_1_seenDays, i_p0_images_1_bone, i_p0_images_1_king, i_p0_images_1_days, v_p0_images_1_pieces, v_p0_images_1_friends, v_p0_images_1_spoons, v_p0_images_1_eaten, v_p0_images_1_seen, w16)))))))) else (if x1 = (1 : Int) then (bd9 (f_X8_copy v_p0_images_1_pieces v_p0_images_1_friends v_p0_images_1_spoons v_p0_images_1_eaten v_p0_images_1_seen i_p0_state_seenDays i_p0_state_bone i_p0_state_king i_p0_state_days v_p0_state_pieces v_p0_state_friends v_p0_state_spoons v_p0_state_eaten v_p0_state_seen) (fun (z17 : Int) (z18 : Int) (z19 : Int) (z20 : Int) (w21 : (Int → Int)) (w22 : (Int → Int)) (w23 : (Int → Int)) (w24 : (Int → Int)) (w25 : (Int → Int)) => (ck (z_ix x1 2) (ck (z_bB (1 : Int)) (bnd (z_up v_p0_imageHeld x1 (1 : Int)) (fun (w26 : (Int → Int)) => (some (z6, i_p0_images_0_seenDays, i_p0_images_0_bone, i_p0_images_0_king, i_p0_images_0_days, v_p0_images_0_pieces, v_p0_images_0_friends, v_p0_images_0_spoons, v_p0_images_0_eaten, v_p0_images_0_seen, z17, z18, z19, z20, w21, w22, w23, w24, w25, w26)))))))) else none)))))) (fun (J5 : Int → Option (Int × Int × Int × Int × Int × (Int → Int) × (Int → Int) × (Int → Int) × (Int → Int) × (Int → Int) × Int × Int × Int × Int × (Int → Int) × (Int → Int) × (Int → Int) × (Int → Int) × (Int → Int) × (Int → Int))) => (if (v_p0_imageHeld x1) = (0 : Int) then (J5 (0 : Int)) else (J5 (1 : Int)))))))))))
abbrev rm_X11_keep : Room := { frames := 2, cells := 0, slots := 0, locals := 81 }
theorem inX11_keep_X11 : ∀ w ∈ wsX110, w ∈ wsX11_keep := by decide +kernel
theorem mwX11_keep_1 : Cond.fieldLink RX11 89 "LadleKings" "imageHeld" "[Z" ∈ wsX11_keep := by decide +kernel
theorem mwX11_keep_2 : Cond.fieldLink RX11 85 "LadleKings" "images" "[LLadleKings$State;" ∈ wsX11_keep := by decide +kernel
theorem mwX11_keep_3 : Cond.fieldLink RX11 19 "LadleKings" "state" "LLadleKings$State;" ∈ wsX11_keep := by decide +kernel
set_option maxHeartbeats 8000000 in
set_option maxRecDepth 100000 in
theorem c_X11_keep (l : Launch) (D : va_G) (G : Nat → ClassId) (sz : Nat) (a_p0 : Nat) (a_p0_rules : Nat) (a_p0_state : Nat) (a_p0_tape : Nat) (a_p0_reader : Nat) (a_p0_kitchen : Nat) (a_p0_luck : Nat) (a_p0_plans : Nat) (a_p0_coups : Nat) (a_p0_past : Nat) (a_p0_fairDays : Nat) (a_p0_images : Nat) (a_p0_imageHeld : Nat) (a_p0_sheets : Nat) (a_p0_state_pieces : Nat) (a_p0_state_friends : Nat) (a_p0_state_spoons : Nat) (a_p0_state_eaten : Nat) (a_p0_state_seen : Nat) (a_p0_images_0 : Nat) (a_p0_images_1 : Nat) (a_p0_images_0_pieces : Nat) (a_p0_images_0_friends : Nat) (a_p0_images_0_spoons : Nat) (a_p0_images_0_eaten : Nat) (a_p0_images_0_seen : Nat) (a_p0_images_1_pieces : Nat) (a_p0_images_1_friends : Nat) (a_p0_images_1_spoons : Nat) (a_p0_images_1_eaten : Nat) (a_p0_images_1_seen : Nat) (i_p0_latestFault : Int) (i_p0_latestTear : Int) (i_p0_state_seenDays : Int) (i_p0_state_bone : Int) (i_p0_state_king : Int) (i_p0_state_days : Int) (v_p0_state_pieces : (Int → Int)) (v_p0_state_friends : (Int → Int)) (v_p0_state_spoons : (Int → Int)) (v_p0_state_eaten : (Int → Int)) (v_p0_state_seen : (Int → Int)) (i_p0_images_0_seenDays : Int) (i_p0_images_0_bone : Int) (i_p0_images_0_king : Int) (i_p0_images_0_days : Int) (v_p0_images_0_pieces : (Int → Int)) (v_p0_images_0_friends : (Int → Int)) (v_p0_images_0_spoons : (Int → Int)) (v_p0_images_0_eaten : (Int → Int)) (v_p0_images_0_seen : (Int → Int)) (i_p0_images_1_seenDays : Int) (i_p0_images_1_bone : Int) (i_p0_images_1_king : Int) (i_p0_images_1_days : Int) (v_p0_images_1_pieces : (Int → Int)) (v_p0_images_1_friends : (Int → Int)) (v_p0_images_1_spoons : (Int → Int)) (v_p0_images_1_eaten : (Int → Int)) (v_p0_images_1_seen : (Int → Int)) (v_p0_imageHeld : (Int → Int)) (x1 : Int) (r : Int) (o_i_p0_images_0_seenDays : Int) (o_i_p0_images_0_bone : Int) (o_i_p0_images_0_king : Int) (o_i_p0_images_0_days : Int) (o_v_p0_images_0_pieces : (Int → Int)) (o_v_p0_images_0_friends : (Int → Int)) (o_v_p0_images_0_spoons : (Int → Int)) (o_v_p0_images_0_eaten : (Int → Int)) (o_v_p0_images_0_seen : (Int → Int)) (o_i_p0_images_1_seenDays : Int) (o_i_p0_images_1_bone : Int) (o_i_p0_images_1_king : Int) (o_i_p0_images_1_days : Int) (o_v_p0_images_1_pieces : (Int → Int)) (o_v_p0_images_1_friends : (Int → Int)) (o_v_p0_images_1_spoons : (Int → Int)) (o_v_p0_images_1_eaten : (Int → Int)) (o_v_p0_images_1_seen : (Int → Int)) (o_v_p0_imageHeld : (Int → Int)) (hf : f_X11_keep i_p0_state_seenDays i_p0_state_bone i_p0_state_king i_p0_state_days v_p0_state_pieces v_p0_state_friends v_p0_state_spoons v_p0_state_eaten v_p0_state_seen i_p0_images_0_seenDays i_p0_images_0_bone i_p0_images_0_king i_p0_images_0_days v_p0_images_0_pieces v_p0_images_0_friends v_p0_images_0_spoons v_p0_images_0_eaten v_p0_images_0_seen i_p0_images_1_seenDays i_p0_images_1_bone i_p0_images_1_king i_p0_images_1_days v_p0_images_1_pieces v_p0_images_1_friends v_p0_images_1_spoons v_p0_images_1_eaten v_p0_images_1_seen v_p0_imageHeld x1 = some (r, o_i_p0_images_0_seenDays, o_i_p0_images_0_bone, o_i_p0_images_0_king, o_i_p0_images_0_days, o_v_p0_images_0_pieces, o_v_p0_images_0_friends, o_v_p0_images_0_spoons, o_v_p0_images_0_eaten, o_v_p0_images_0_seen, o_i_p0_images_1_seenDays, o_i_p0_images_1_bone, o_i_p0_images_1_king, o_i_p0_images_1_days, o_v_p0_images_1_pieces, o_v_p0_images_1_friends, o_v_p0_images_1_spoons, o_v_p0_images_1_eaten, o_v_p0_images_1_seen, o_v_p0_imageHeld)) : Met l yX11_keep wsX11_keep rm_X11_keep (pcG D G [.ref a_p0, .int (Int32.ofInt x1)] sz [(a_p0, .inr (11, [.ref a_p0_rules, .ref a_p0_state, .ref a_p0_tape, .ref a_p0_reader, .ref a_p0_kitchen, .ref a_p0_luck, .ref a_p0_plans, .ref a_p0_coups, .ref a_p0_past, .ref a_p0_fairDays, .ref a_p0_images, .ref a_p0_imageHeld, .ref a_p0_sheets, .int (Int32.ofInt i_p0_latestFault), .int (Int32.ofInt i_p0_latestTear)])), (a_p0_state, .inr (8, [.ref a_p0_state_pieces, .ref a_p0_state_friends, .ref a_p0_state_spoons, .ref a_p0_state_eaten, .ref a_p0_state_seen, .int (Int32.ofInt i_p0_state_seenDays), .int (Int32.ofInt i_p0_state_bone), .int (Int32.ofInt i_p0_state_king), .int (Int32.ofInt i_p0_state_days)])), (a_p0_state_pieces, .inl (G 1, 7, .inl (zA v_p0_state_pieces))), (a_p0_state_friends, .inl (G 1, 7, .inl (zA v_p0_state_friends))), (a_p0_state_spoons, .inl (G 1, 7, .inl (zA v_p0_state_spoons))), (a_p0_state_eaten, .inl (G 1, 7, .inl (zA v_p0_state_eaten))), (a_p0_state_seen, .inl (G 1, 6, .inl (zA v_p0_state_seen))), (a_p0_images, .inl (G 4, 2, .inr (.inr (.inr (.inr (va_up (va_up (fun _ => none) 0 (some a_p0_images_0)) 1 (some a_p0_images_1))))))), (a_p0_images_0, .inr (8, [.ref a_p0_images_0_pieces, .ref a_p0_images_0_friends, .ref a_p0_images_0_spoons, .ref a_p0_images_0_eaten, .ref a_p0_images_0_seen, .int (Int32.ofInt i_p0_images_0_seenDays), .int (Int32.ofInt i_p0_images_0_bone), .int (Int32.ofInt i_p0_images_0_king), .int (Int32.ofInt i_p0_images_0_days)])), (a_p0_images_0_pieces, .inl (G 1, 7, .inl (zA v_p0_images_0_pieces))), (a_p0_images_0_friends, .inl (G 1, 7, .inl (zA v_p0_images_0_friends))), (a_p0_images_0_spoons, .inl (G 1, 7, .inl (zA v_p0_images_0_spoons))), (a_p0_images_0_eaten, .inl (G 1, 7, .inl (zA v_p0_images_0_eaten))), (a_p0_images_0_seen, .inl (G 1, 6, .inl (zA v_p0_images_0_seen))), (a_p0_images_1, .inr (8, [.ref a_p0_images_1_pieces, .ref a_p0_images_1_friends, .ref a_p0_images_1_spoons, .ref a_p0_images_1_eaten, .ref a_p0_images_1_seen, .int (Int32.ofInt i_p0_images_1_seenDays), .int (Int32.ofInt i_p0_images_1_bone), .int (Int32.ofInt i_p0_images_1_king), .int (Int32.ofInt i_p0_images_1_days)])), (a_p0_images_1_pieces, .inl (G 1, 7, .inl (zA v_p0_images_1_pieces))), (a_p0_images_1_friends, .inl (G 1, 7, .inl (zA v_p0_images_1_friends))), (a_p0_images_1_spoons, .inl (G 1, 7, .inl (zA v_p0_images_1_spoons))), (a_p0_images_1_eaten, .inl (G 1, 7, .inl (zA v_p0_images_1_eaten))), (a_p0_images_1_seen, .inl (G 1, 6, .inl (zA v_p0_images_1_seen))), (a_p0_imageHeld, .inl (G 3, 2, .inl (zA v_p0_imageHeld)))]) (qcI D G (Int32.ofInt r) [(a_p0, .inr (11, [.ref a_p0_rules, .ref a_p0_state, .ref a_p0_tape, .ref a_p0_reader, .ref a_p0_kitchen, .ref a_p0_luck, .ref a_p0_plans, .ref a_p0_coups, .ref a_p0_past, .ref a_p0_fairDays, .ref a_p0_images, .ref a_p0_imageHeld, .ref a_p0_sheets, .int (Int32.ofInt i_p0_latestFault), .int (Int32.ofInt i_p0_latestTear)])), (a_p0_state, .inr (8, [.ref a_p0_state_pieces, .ref a_p0_state_friends, .ref a_p0_state_spoons, .ref a_p0_state_eaten, .ref a_p0_state_seen, .int (Int32.ofInt i_p0_state_seenDays), .int (Int32.ofInt i_p0_state_bone), .int (Int32.ofInt i_p0_state_king), .int (Int32.ofInt i_p0_state_days)])), (a_p0_state_pieces, .inl (G 1, 7, .inl (zA v_p0_state_pieces))), (a_p0_state_friends, .inl (G 1, 7, .inl (zA v_p0_state_friends))), (a_p0_state_spoons, .inl (G 1, 7, .inl (zA v_p0_state_spoons))), (a_p0_state_eaten, .inl (G 1, 7, .inl (zA v_p0_state_eaten))), (a_p0_state_seen, .inl (G 1, 6, .inl (zA v_p0_state_seen))), (a_p0_images, .inl (G 4, 2, .inr (.inr (.inr (.inr (va_up (va_up (fun _ => none) 0 (some a_p0_images_0)) 1 (some a_p0_images_1))))))), (a_p0_images_0, .inr (8, [.ref a_p0_images_0_pieces, .ref a_p0_images_0_friends, .ref a_p0_images_0_spoons, .ref a_p0_images_0_eaten, .ref a_p0_images_0_seen, .int (Int32.ofInt o_i_p0_images_0_seenDays), .int (Int32.ofInt o_i_p0_images_0_bone), .int (Int32.ofInt o_i_p0_images_0_king), .int (Int32.ofInt o_i_p0_images_0_days)])), (a_p0_images_0_pieces, .inl (G 1, 7, .inl (zA o_v_p0_images_0_pieces))), (a_p0_images_0_friends, .inl (G 1, 7, .inl (zA o_v_p0_images_0_friends))), (a_p0_images_0_spoons, .inl (G 1, 7, .inl (zA o_v_p0_images_0_spoons))), (a_p0_images_0_eaten, .inl (G 1, 7, .inl (zA o_v_p0_images_0_eaten))), (a_p0_images_0_seen, .inl (G 1, 6, .inl (zA o_v_p0_images_0_seen))), (a_p0_images_1, .inr (8, [.ref a_p0_images_1_pieces, .ref a_p0_images_1_friends, .ref a_p0_images_1_spoons, .ref a_p0_images_1_eaten, .ref a_p0_images_1_seen, .int (Int32.ofInt o_i_p0_images_1_seenDays), .int (Int32.ofInt o_i_p0_images_1_bone), .int (Int32.ofInt o_i_p0_images_1_king), .int (Int32.ofInt o_i_p0_images_1_days)])), (a_p0_images_1_pieces, .inl (G 1, 7, .inl (zA o_v_p0_images_1_pieces))), (a_p0_images_1_friends, .inl (G 1, 7, .inl (zA o_v_p0_images_1_friends))), (a_p0_images_1_spoons, .inl (G 1, 7, .inl (zA o_v_p0_images_1_spoons))), (a_p0_images_1_eaten, .inl (G 1, 7, .inl (zA o_v_p0_images_1_eaten))), (a_p0_images_1_seen, .inl (G 1, 6, .inl (zA o_v_p0_images_1_seen))), (a_p0_imageHeld, .inl (G 3, 2, .inl (zA o_v_p0_imageHeld)))] (va_A [(a_p0, .inr (11, [.ref a_p0_rules, .ref a_p0_state, .ref a_p0_tape, .ref a_p0_reader, .ref a_p0_kitchen, .ref a_p0_luck, .ref a_p0_plans, .ref a_p0_coups, .ref a_p0_past, .ref a_p0_fairDays, .ref a_p0_images, .ref a_p0_imageHeld, .ref a_p0_sheets, .int (Int32.ofInt i_p0_latestFault), .int (Int32.ofInt i_p0_latestTear)])), (a_p0_state, .inr (8, [.ref a_p0_state_pieces, .ref a_p0_state_friends, .ref a_p0_state_spoons, .ref a_p0_state_eaten, .ref a_p0_state_seen, .int (Int32.ofInt i_p0_state_seenDays), .int (Int32.ofInt i_p0_state_bone), .int (Int32.ofInt i_p0_state_king), .int (Int32.ofInt i_p0_state_days)])), (a_p0_state_pieces, .inl (G 1, 7, .inl (zA v_p0_state_pieces))), (a_p0_state_friends, .inl (G 1, 7, .inl (zA v_p0_state_friends))), (a_p0_state_spoons, .inl (G 1, 7, .inl (zA v_p0_state_spoons))), (a_p0_state_eaten, .inl (G 1, 7, .inl (zA v_p0_state_eaten))), (a_p0_state_seen, .inl (G 1, 6, .inl (zA v_p0_state_seen))), (a_p0_images, .inl (G 4, 2, .inr (.inr (.inr (.inr (va_up (va_up (fun _ => none) 0 (some a_p0_images_0)) 1 (some a_p0_images_1))))))), (a_p0_images_0, .inr (8, [.ref a_p0_images_0_pieces, .ref a_p0_images_0_friends, .ref a_p0_images_0_spoons, .ref a_p0_images_0_eaten, .ref a_p0_images_0_seen, .int (Int32.ofInt i_p0_images_0_seenDays), .int (Int32.ofInt i_p0_images_0_bone), .int (Int32.ofInt i_p0_images_0_king), .int (Int32.ofInt i_p0_images_0_days)])), (a_p0_images_0_pieces, .inl (G 1, 7, .inl (zA v_p0_images_0_pieces))), (a_p0_images_0_friends, .inl (G 1, 7, .inl (zA v_p0_images_0_friends))), (a_p0_images_0_spoons, .inl (G 1, 7, .inl (zA v_p0_images_0_spoons))), (a_p0_images_0_eaten, .inl (G 1, 7, .inl (zA v_p0_images_0_eaten))), (a_p0_images_0_seen, .inl (G 1, 6, .inl (zA v_p0_images_0_seen))), (a_p0_images_1, .inr (8, [.ref a_p0_images_1_pieces, .ref a_p0_images_1_friends, .ref a_p0_images_1_spoons, .ref a_p0_images_1_eaten, .ref a_p0_images_1_seen, .int (Int32.ofInt i_p0_images_1_seenDays), .int (Int32.ofInt i_p0_images_1_bone), .int (Int32.ofInt i_p0_images_1_king), .int (Int32.ofInt i_p0_images_1_days)])), (a_p0_images_1_pieces, .inl (G 1, 7, .inl (zA v_p0_images_1_pieces))), (a_p0_images_1_friends, .inl (G 1, 7, .inl (zA v_p0_images_1_friends))), (a_p0_images_1_spoons, .inl (G 1, 7, .inl (zA v_p0_images_1_spoons))), (a_p0_images_1_eaten, .inl (G 1, 7, .inl (zA v_p0_images_1_eaten))), (a_p0_images_1_seen, .inl (G 1, 6, .inl (zA v_p0_images_1_seen))), (a_p0_imageHeld, .inl (G 3, 2, .inl (zA v_p0_imageHeld)))] sz)) 0 0 (va_A [(a_p0, .inr (11, [.ref a_p0_rules, .ref a_p0_state, .ref a_p0_tape, .ref a_p0_reader, .ref a_p0_kitchen, .ref a_p0_luck, .ref a_p0_plans, .ref a_p0_coups, .ref a_p0_past, .ref a_p0_fairDays, .ref a_p0_images, .ref a_p0_imageHeld, .ref a_p0_sheets, .int (Int32.ofInt i_p0_latestFault), .int (Int32.ofInt i_p0_latestTear)])), (a_p0_state, .inr (8, [.ref a_p0_state_pieces, .ref a_p0_state_friends, .ref a_p0_state_spoons, .ref a_p0_state_eaten, .ref a_p0_state_seen, .int (Int32.ofInt i_p0_state_seenDays), .int (Int32.ofInt i_p0_state_bone), .int (Int32.ofInt i_p0_state_king), .int (Int32.ofInt i_p0_state_days)])), (a_p0_state_pieces, .inl (G 1, 7, .inl (zA v_p0_state_pieces))), (a_p0_state_friends, .inl (G 1, 7, .inl (zA v_p0_state_friends))), (a_p0_state_spoons, .inl (G 1, 7, .inl (zA v_p0_state_spoons))), (a_p0_state_eaten, .inl (G 1, 7, .inl (zA v_p0_state_eaten))), (a_p0_state_seen, .inl (G 1, 6, .inl (zA v_p0_state_seen))), (a_p0_images, .inl (G 4, 2, .inr (.inr (.inr (.inr (va_up (va_up (fun _ => none) 0 (some a_p0_images_0)) 1 (some a_p0_images_1))))))), (a_p0_images_0, .inr (8, [.ref a_p0_images_0_pieces, .ref a_p0_images_0_friends, .ref a_p0_images_0_spoons, .ref a_p0_images_0_eaten, .ref a_p0_images_0_seen, .int (Int32.ofInt i_p0_images_0_seenDays), .int (Int32.ofInt i_p0_images_0_bone), .int (Int32.ofInt i_p0_images_0_king), .int (Int32.ofInt i_p0_images_0_days)])), (a_p0_images_0_pieces, .inl (G 1, 7, .inl (zA v_p0_images_0_pieces))), (a_p0_images_0_friends, .inl (G 1, 7, .inl (zA v_p0_images_0_friends))), (a_p0_images_0_spoons, .inl (G 1, 7, .inl (zA v_p0_images_0_spoons))), (a_p0_images_0_eaten, .inl (G 1, 7, .inl (zA v_p0_images_0_eaten))), (a_p0_images_0_seen, .inl (G 1, 6, .inl (zA v_p0_images_0_seen))), (a_p0_images_1, .inr (8, [.ref a_p0_images_1_pieces, .ref a_p0_images_1_friends, .ref a_p0_images_1_spoons, .ref a_p0_images_1_eaten, .ref a_p0_images_1_seen, .int (Int32.ofInt i_p0_images_1_seenDays), .int (Int32.ofInt i_p0_images_1_bone), .int (Int32.ofInt i_p0_images_1_king), .int (Int32.ofInt i_p0_images_1_days)])), (a_p0_images_1_pieces, .inl (G 1, 7, .inl (zA v_p0_images_1_pieces))), (a_p0_images_1_friends, .inl (G 1, 7, .inl (zA v_p0_images_1_friends))), (a_p0_images_1_spoons, .inl (G 1, 7, .inl (zA v_p0_images_1_spoons))), (a_p0_images_1_eaten, .inl (G 1, 7, .inl (zA v_p0_images_1_eaten))), (a_p0_images_1_seen, .inl (G 1, 6, .inl (zA v_p0_images_1_seen))), (a_p0_imageHeld, .inl (G 3, 2, .inl (zA v_p0_imageHeld)))] sz) := by
  refine Met.ofW (cc := cX11_keep) (maxL := 3) (ret := (some .int)) (by decide) rfl ?_
  intro p e s m args below meth c s₁ B hml hv
  obtain ⟨rfl, hsz, hP, hK, hD0⟩ := hv
  have hx := B.exec
  have hb := B.bytes
  have hr := B.returns
  have hts := atoms_spec (ws := wsX11_keep) B.pre
  have hown : s.vm.findClass RX11 = some m.cls := findClass_of_methodNamed B.named
  have hlocks := B.notSynchronized
  subst hsz
  have hD := hD0.self (sz := s.heap.size)
  generalize hAe : va_A [(a_p0, .inr (11, [.ref a_p0_rules, .ref a_p0_state, .ref a_p0_tape, .ref a_p0_reader, .ref a_p0_kitchen, .ref a_p0_luck, .ref a_p0_plans, .ref a_p0_coups, .ref a_p0_past, .ref a_p0_fairDays, .ref a_p0_images, .ref a_p0_imageHeld, .ref a_p0_sheets, .int (Int32.ofInt i_p0_latestFault), .int (Int32.ofInt i_p0_latestTear)])), (a_p0_state, .inr (8, [.ref a_p0_state_pieces, .ref a_p0_state_friends, .ref a_p0_state_spoons, .ref a_p0_state_eaten, .ref a_p0_state_seen, .int (Int32.ofInt i_p0_state_seenDays), .int (Int32.ofInt i_p0_state_bone), .int (Int32.ofInt i_p0_state_king), .int (Int32.ofInt i_p0_state_days)])), (a_p0_state_pieces, .inl (G 1, 7, .inl (zA v_p0_state_pieces))), (a_p0_state_friends, .inl (G 1, 7, .inl (zA v_p0_state_friends))), (a_p0_state_spoons, .inl (G 1, 7, .inl (zA v_p0_state_spoons))), (a_p0_state_eaten, .inl (G 1, 7, .inl (zA v_p0_state_eaten))), (a_p0_state_seen, .inl (G 1, 6, .inl (zA v_p0_state_seen))), (a_p0_images, .inl (G 4, 2, .inr (.inr (.inr (.inr (va_up (va_up (fun _ => none) 0 (some a_p0_images_0)) 1 (some a_p0_images_1))))))), (a_p0_images_0, .inr (8, [.ref a_p0_images_0_pieces, .ref a_p0_images_0_friends, .ref a_p0_images_0_spoons, .ref a_p0_images_0_eaten, .ref a_p0_images_0_seen, .int (Int32.ofInt i_p0_images_0_seenDays), .int (Int32.ofInt i_p0_images_0_bone), .int (Int32.ofInt i_p0_images_0_king), .int (Int32.ofInt i_p0_images_0_days)])), (a_p0_images_0_pieces, .inl (G 1, 7, .inl (zA v_p0_images_0_pieces))), (a_p0_images_0_friends, .inl (G 1, 7, .inl (zA v_p0_images_0_friends))), (a_p0_images_0_spoons, .inl (G 1, 7, .inl (zA v_p0_images_0_spoons))), (a_p0_images_0_eaten, .inl (G 1, 7, .inl (zA v_p0_images_0_eaten))), (a_p0_images_0_seen, .inl (G 1, 6, .inl (zA v_p0_images_0_seen))), (a_p0_images_1, .inr (8, [.ref a_p0_images_1_pieces, .ref a_p0_images_1_friends, .ref a_p0_images_1_spoons, .ref a_p0_images_1_eaten, .ref a_p0_images_1_seen, .int (Int32.ofInt i_p0_images_1_seenDays), .int (Int32.ofInt i_p0_images_1_bone), .int (Int32.ofInt i_p0_images_1_king), .int (Int32.ofInt i_p0_images_1_days)])), (a_p0_images_1_pieces, .inl (G 1, 7, .inl (zA v_p0_images_1_pieces))), (a_p0_images_1_friends, .inl (G 1, 7, .inl (zA v_p0_images_1_friends))), (a_p0_images_1_spoons, .inl (G 1, 7, .inl (zA v_p0_images_1_spoons))), (a_p0_images_1_eaten, .inl (G 1, 7, .inl (zA v_p0_images_1_eaten))), (a_p0_images_1_seen, .inl (G 1, 6, .inl (zA v_p0_images_1_seen))), (a_p0_imageHeld, .inl (G 3, 2, .inl (zA v_p0_imageHeld)))] s.heap.size = A at hD ⊢
  have hA : ∀ q : Nat, s.heap.size ≤ q → A q := fun q h => by rw [← hAe]; exact Or.inr h
  clear hAe hD0
  have hS : va_S A s.heap s.heap [] := va_S.rf
  have hl := lv_entry ([.ref a_p0, .int (Int32.ofInt x1)]) (n := 3) (Nat.le_of_ble_eq_true rfl)
  rw [lg_entry_eq]
  generalize (lg_sl ([.ref a_p0, .int (Int32.ofInt x1)]) ++ List.replicate (3 - (lg_sl ([.ref a_p0, .int (Int32.ofInt x1)])).length) Slot.unset).toArray = ls at hl ⊢
  have hl : lv_has ls 3 [(0, .ref a_p0), (1, .int (Int32.ofInt x1))] := hl
  refine W_nameQ (fun Q hQ => ?_)
  obtain ⟨H, hH⟩ : ∃ H, H = s.heap := ⟨_, rfl⟩
  replace hS : va_S A s.heap H [] := by rw [hH]; exact hS
  replace hP : va_P D vwCl [(a_p0, .inr (11, [.ref a_p0_rules, .ref a_p0_state, .ref a_p0_tape, .ref a_p0_reader, .ref a_p0_kitchen, .ref a_p0_luck, .ref a_p0_plans, .ref a_p0_coups, .ref a_p0_past, .ref a_p0_fairDays, .ref a_p0_images, .ref a_p0_imageHeld, .ref a_p0_sheets, .int (Int32.ofInt i_p0_latestFault), .int (Int32.ofInt i_p0_latestTear)])), (a_p0_state, .inr (8, [.ref a_p0_state_pieces, .ref a_p0_state_friends, .ref a_p0_state_spoons, .ref a_p0_state_eaten, .ref a_p0_state_seen, .int (Int32.ofInt i_p0_state_seenDays), .int (Int32.ofInt i_p0_state_bone), .int (Int32.ofInt i_p0_state_king), .int (Int32.ofInt i_p0_state_days)])), (a_p0_state_pieces, .inl (G 1, 7, .inl (zA v_p0_state_pieces))), (a_p0_state_friends, .inl (G 1, 7, .inl (zA v_p0_state_friends))), (a_p0_state_spoons, .inl (G 1, 7, .inl (zA v_p0_state_spoons))), (a_p0_state_eaten, .inl (G 1, 7, .inl (zA v_p0_state_eaten))), (a_p0_state_seen, .inl (G 1, 6, .inl (zA v_p0_state_seen))), (a_p0_images, .inl (G 4, 2, .inr (.inr (.inr (.inr (va_up (va_up (fun _ => none) 0 (some a_p0_images_0)) 1 (some a_p0_images_1))))))), (a_p0_images_0, .inr (8, [.ref a_p0_images_0_pieces, .ref a_p0_images_0_friends, .ref a_p0_images_0_spoons, .ref a_p0_images_0_eaten, .ref a_p0_images_0_seen, .int (Int32.ofInt i_p0_images_0_seenDays), .int (Int32.ofInt i_p0_images_0_bone), .int (Int32.ofInt i_p0_images_0_king), .int (Int32.ofInt i_p0_images_0_days)])), (a_p0_images_0_pieces, .inl (G 1, 7, .inl (zA v_p0_images_0_pieces))), (a_p0_images_0_friends, .inl (G 1, 7, .inl (zA v_p0_images_0_friends))), (a_p0_images_0_spoons, .inl (G 1, 7, .inl (zA v_p0_images_0_spoons))), (a_p0_images_0_eaten, .inl (G 1, 7, .inl (zA v_p0_images_0_eaten))), (a_p0_images_0_seen, .inl (G 1, 6, .inl (zA v_p0_images_0_seen))), (a_p0_images_1, .inr (8, [.ref a_p0_images_1_pieces, .ref a_p0_images_1_friends, .ref a_p0_images_1_spoons, .ref a_p0_images_1_eaten, .ref a_p0_images_1_seen, .int (Int32.ofInt i_p0_images_1_seenDays), .int (Int32.ofInt i_p0_images_1_bone), .int (Int32.ofInt i_p0_images_1_king), .int (Int32.ofInt i_p0_images_1_days)])), (a_p0_images_1_pieces, .inl (G 1, 7, .inl (zA v_p0_images_1_pieces))), (a_p0_images_1_friends, .inl (G 1, 7, .inl (zA v_p0_images_1_friends))), (a_p0_images_1_spoons, .inl (G 1, 7, .inl (zA v_p0_images_1_spoons))), (a_p0_images_1_eaten, .inl (G 1, 7, .inl (zA v_p0_images_1_eaten))), (a_p0_images_1_seen, .inl (G 1, 6, .inl (zA v_p0_images_1_seen))), (a_p0_imageHeld, .inl (G 3, 2, .inl (zA v_p0_imageHeld)))] H := by rw [hH]; exact hP
  rw [← hH]
  clear hH
  unfold f_X11_keep at hf
  refine lv_iload_n hx hb dX11_keep_0 rfl (lv_at hl 1 rfl) ?_
  have hq := bd1_s hf
  clear hf
  obtain ⟨z1, hcall, hf⟩ := hq
  refine gcI (ws' := [(a_p0, .inr (11, [.ref a_p0_rules, .ref a_p0_state, .ref a_p0_tape, .ref a_p0_reader, .ref a_p0_kitchen, .ref a_p0_luck, .ref a_p0_plans, .ref a_p0_coups, .ref a_p0_past, .ref a_p0_fairDays, .ref a_p0_images, .ref a_p0_imageHeld, .ref a_p0_sheets, .int (Int32.ofInt i_p0_latestFault), .int (Int32.ofInt i_p0_latestTear)])), (a_p0_state, .inr (8, [.ref a_p0_state_pieces, .ref a_p0_state_friends, .ref a_p0_state_spoons, .ref a_p0_state_eaten, .ref a_p0_state_seen, .int (Int32.ofInt i_p0_state_seenDays), .int (Int32.ofInt i_p0_state_bone), .int (Int32.ofInt i_p0_state_king), .int (Int32.ofInt i_p0_state_days)])), (a_p0_state_pieces, .inl (G 1, 7, .inl (zA v_p0_state_pieces))), (a_p0_state_friends, .inl (G 1, 7, .inl (zA v_p0_state_friends))), (a_p0_state_spoons, .inl (G 1, 7, .inl (zA v_p0_state_spoons))), (a_p0_state_eaten, .inl (G 1, 7, .inl (zA v_p0_state_eaten))), (a_p0_state_seen, .inl (G 1, 6, .inl (zA v_p0_state_seen))), (a_p0_images, .inl (G 4, 2, .inr (.inr (.inr (.inr (va_up (va_up (fun _ => none) 0 (some a_p0_images_0)) 1 (some a_p0_images_1))))))), (a_p0_images_0, .inr (8, [.ref a_p0_images_0_pieces, .ref a_p0_images_0_friends, .ref a_p0_images_0_spoons, .ref a_p0_images_0_eaten, .ref a_p0_images_0_seen, .int (Int32.ofInt i_p0_images_0_seenDays), .int (Int32.ofInt i_p0_images_0_bone), .int (Int32.ofInt i_p0_images_0_king), .int (Int32.ofInt i_p0_images_0_days)])), (a_p0_images_0_pieces, .inl (G 1, 7, .inl (zA v_p0_images_0_pieces))), (a_p0_images_0_friends, .inl (G 1, 7, .inl (zA v_p0_images_0_friends))), (a_p0_images_0_spoons, .inl (G 1, 7, .inl (zA v_p0_images_0_spoons))), (a_p0_images_0_eaten, .inl (G 1, 7, .inl (zA v_p0_images_0_eaten))), (a_p0_images_0_seen, .inl (G 1, 6, .inl (zA v_p0_images_0_seen))), (a_p0_images_1, .inr (8, [.ref a_p0_images_1_pieces, .ref a_p0_images_1_friends, .ref a_p0_images_1_spoons, .ref a_p0_images_1_eaten, .ref a_p0_images_1_seen, .int (Int32.ofInt i_p0_images_1_seenDays), .int (Int32.ofInt i_p0_images_1_bone), .int (Int32.ofInt i_p0_images_1_king), .int (Int32.ofInt i_p0_images_1_days)])), (a_p0_images_1_pieces, .inl (G 1, 7, .inl (zA v_p0_images_1_pieces))), (a_p0_images_1_friends, .inl (G 1, 7, .inl (zA v_p0_images_1_friends))), (a_p0_images_1_spoons, .inl (G 1, 7, .inl (zA v_p0_images_1_spoons))), (a_p0_images_1_eaten, .inl (G 1, 7, .inl (zA v_p0_images_1_eaten))), (a_p0_images_1_seen, .inl (G 1, 6, .inl (zA v_p0_images_1_seen))), (a_p0_imageHeld, .inl (G 3, 2, .inl (zA v_p0_imageHeld)))]) (va_runS (As := [.int (Int32.ofInt x1)]) (rest := []) ⟨hx, hb, hml, hown, hts⟩ (c_X11_isImage (l := l) (D := D) (G := G) (sz := H.size) (x0 := x1) (r := z1) (hf := hcall)) (va_cwS 1 hts gX11_keep_X11_isImage rfl rfl rfl (by decide +kernel) ⟨Nat.le_of_ble_eq_true rfl, Nat.le_of_ble_eq_true rfl⟩) (preG_S (hP.sub [] rfl) (hD.sub [] rfl rfl) hK) rfl rfl hl.1 rfl (lv_room (Nat.le_of_ble_eq_true rfl)) dX11_keep_1 ⟨Nat.le_of_ble_eq_true rfl, Nat.le_of_ble_eq_true rfl⟩) hP hD hS hA [] [0, 1, 2, 3, 4, 5, 6, 7, 8, 9, 10, 11, 12, 13, 14, 15, 16, 17, 18, 19, 20] [0, 1, 2, 3, 4, 5, 6, 7, 8, 9, 10, 11, 12, 13, 14, 15, 16, 17, 18, 19, 20] rfl rfl rfl (by decide) rfl rfl rfl (fun H locs hP hD hS => ?_)
  clear hcall
  have hr1 := ck_c hf
  replace hf := ck_r hf
  refine lv_if_ne (tgt := 9) hx hb dX11_keep_4 (by decide) (fun cc => ?_) (fun cc => ?_)
  ·
    replace hf := ite_f (fun h9 => cc ((z_eq0 hr1).mpr h9)) hf
    clear cc
    refine lv_aload_n hx hb dX11_keep_9 rfl (lv_at hl 0 rfl) ?_
    refine va_get (D := D) (ci := 11) (v := .ref a_p0_imageHeld) (C := RX11) (T := TX11) (N := 15) hx hb hts inX11_keep_X11 hown hK hP 0 rfl rfl 11 (by decide) (hts _ mwX11_keep_1) (fun _ h9 => h9) rfl dX11_keep_10 ?_
    refine lv_iload_n hx hb dX11_keep_13 rfl (lv_at hl 1 rfl) ?_
    have hc := ck_c hf
    replace hf := ck_r hf
    refine va_zald hx hb hK hP 20 3 rfl rfl (z_ix_in hc) dX11_keep_14 (z_ci (z_ald v_p0_imageHeld hc) ?_)
    clear hc
    have hr2 := ck_c hf
    replace hf := ck_r hf
    have hq := jn_i hf
    clear hf
    obtain ⟨J5, eJ5, hf⟩ := hq
    have hJ5 : ∀ (z4 : Int) (ls : Array Slot) (H : Heap) (locs : List Loc), lv_has ls 3 [(0, .ref a_p0), (1, .int (Int32.ofInt x1))] → va_P D vwCl [(a_p0, .inr (11, [.ref a_p0_rules, .ref a_p0_state, .ref a_p0_tape, .ref a_p0_reader, .ref a_p0_kitchen, .ref a_p0_luck, .ref a_p0_plans, .ref a_p0_coups, .ref a_p0_past, .ref a_p0_fairDays, .ref a_p0_images, .ref a_p0_imageHeld, .ref a_p0_sheets, .int (Int32.ofInt i_p0_latestFault), .int (Int32.ofInt i_p0_latestTear)])), (a_p0_state, .inr (8, [.ref a_p0_state_pieces, .ref a_p0_state_friends, .ref a_p0_state_spoons, .ref a_p0_state_eaten, .ref a_p0_state_seen, .int (Int32.ofInt i_p0_state_seenDays), .int (Int32.ofInt i_p0_state_bone), .int (Int32.ofInt i_p0_state_king), .int (Int32.ofInt i_p0_state_days)])), (a_p0_state_pieces, .inl (G 1, 7, .inl (zA v_p0_state_pieces))), (a_p0_state_friends, .inl (G 1, 7, .inl (zA v_p0_state_friends))), (a_p0_state_spoons, .inl (G 1, 7, .inl (zA v_p0_state_spoons))), (a_p0_state_eaten, .inl (G 1, 7, .inl (zA v_p0_state_eaten))), (a_p0_state_seen, .inl (G 1, 6, .inl (zA v_p0_state_seen))), (a_p0_images, .inl (G 4, 2, .inr (.inr (.inr (.inr (va_up (va_up (fun _ => none) 0 (some a_p0_images_0)) 1 (some a_p0_images_1))))))), (a_p0_images_0, .inr (8, [.ref a_p0_images_0_pieces, .ref a_p0_images_0_friends, .ref a_p0_images_0_spoons, .ref a_p0_images_0_eaten, .ref a_p0_images_0_seen, .int (Int32.ofInt i_p0_images_0_seenDays), .int (Int32.ofInt i_p0_images_0_bone), .int (Int32.ofInt i_p0_images_0_king), .int (Int32.ofInt i_p0_images_0_days)])), (a_p0_images_0_pieces, .inl (G 1, 7, .inl (zA v_p0_images_0_pieces))), (a_p0_images_0_friends, .inl (G 1, 7, .inl (zA v_p0_images_0_friends))), (a_p0_images_0_spoons, .inl (G 1, 7, .inl (zA v_p0_images_0_spoons))), (a_p0_images_0_eaten, .inl (G 1, 7, .inl (zA v_p0_images_0_eaten))), (a_p0_images_0_seen, .inl (G 1, 6, .inl (zA v_p0_images_0_seen))), (a_p0_images_1, .inr (8, [.ref a_p0_images_1_pieces, .ref a_p0_images_1_friends, .ref a_p0_images_1_spoons, .ref a_p0_images_1_eaten, .ref a_p0_images_1_seen, .int (Int32.ofInt i_p0_images_1_seenDays), .int (Int32.ofInt i_p0_images_1_bone), .int (Int32.ofInt i_p0_images_1_king), .int (Int32.ofInt i_p0_images_1_days)])), (a_p0_images_1_pieces, .inl (G 1, 7, .inl (zA v_p0_images_1_pieces))), (a_p0_images_1_friends, .inl (G 1, 7, .inl (zA v_p0_images_1_friends))), (a_p0_images_1_spoons, .inl (G 1, 7, .inl (zA v_p0_images_1_spoons))), (a_p0_images_1_eaten, .inl (G 1, 7, .inl (zA v_p0_images_1_eaten))), (a_p0_images_1_seen, .inl (G 1, 6, .inl (zA v_p0_images_1_seen))), (a_p0_imageHeld, .inl (G 3, 2, .inl (zA v_p0_imageHeld)))] H → va_D A [(a_p0, .inr (11, [.ref a_p0_rules, .ref a_p0_state, .ref a_p0_tape, .ref a_p0_reader, .ref a_p0_kitchen, .ref a_p0_luck, .ref a_p0_plans, .ref a_p0_coups, .ref a_p0_past, .ref a_p0_fairDays, .ref a_p0_images, .ref a_p0_imageHeld, .ref a_p0_sheets, .int (Int32.ofInt i_p0_latestFault), .int (Int32.ofInt i_p0_latestTear)])), (a_p0_state, .inr (8, [.ref a_p0_state_pieces, .ref a_p0_state_friends, .ref a_p0_state_spoons, .ref a_p0_state_eaten, .ref a_p0_state_seen, .int (Int32.ofInt i_p0_state_seenDays), .int (Int32.ofInt i_p0_state_bone), .int (Int32.ofInt i_p0_state_king), .int (Int32.ofInt i_p0_state_days)])), (a_p0_state_pieces, .inl (G 1, 7, .inl (zA v_p0_state_pieces))), (a_p0_state_friends, .inl (G 1, 7, .inl (zA v_p0_state_friends))), (a_p0_state_spoons, .inl (G 1, 7, .inl (zA v_p0_state_spoons))), (a_p0_state_eaten, .inl (G 1, 7, .inl (zA v_p0_state_eaten))), (a_p0_state_seen, .inl (G 1, 6, .inl (zA v_p0_state_seen))), (a_p0_images, .inl (G 4, 2, .inr (.inr (.inr (.inr (va_up (va_up (fun _ => none) 0 (some a_p0_images_0)) 1 (some a_p0_images_1))))))), (a_p0_images_0, .inr (8, [.ref a_p0_images_0_pieces, .ref a_p0_images_0_friends, .ref a_p0_images_0_spoons, .ref a_p0_images_0_eaten, .ref a_p0_images_0_seen, .int (Int32.ofInt i_p0_images_0_seenDays), .int (Int32.ofInt i_p0_images_0_bone), .int (Int32.ofInt i_p0_images_0_king), .int (Int32.ofInt i_p0_images_0_days)])), (a_p0_images_0_pieces, .inl (G 1, 7, .inl (zA v_p0_images_0_pieces))), (a_p0_images_0_friends, .inl (G 1, 7, .inl (zA v_p0_images_0_friends))), (a_p0_images_0_spoons, .inl (G 1, 7, .inl (zA v_p0_images_0_spoons))), (a_p0_images_0_eaten, .inl (G 1, 7, .inl (zA v_p0_images_0_eaten))), (a_p0_images_0_seen, .inl (G 1, 6, .inl (zA v_p0_images_0_seen))), (a_p0_images_1, .inr (8, [.ref a_p0_images_1_pieces, .ref a_p0_images_1_friends, .ref a_p0_images_1_spoons, .ref a_p0_images_1_eaten, .ref a_p0_images_1_seen, .int (Int32.ofInt i_p0_images_1_seenDays), .int (Int32.ofInt i_p0_images_1_bone), .int (Int32.ofInt i_p0_images_1_king), .int (Int32.ofInt i_p0_images_1_days)])), (a_p0_images_1_pieces, .inl (G 1, 7, .inl (zA v_p0_images_1_pieces))), (a_p0_images_1_friends, .inl (G 1, 7, .inl (zA v_p0_images_1_friends))), (a_p0_images_1_spoons, .inl (G 1, 7, .inl (zA v_p0_images_1_spoons))), (a_p0_images_1_eaten, .inl (G 1, 7, .inl (zA v_p0_images_1_eaten))), (a_p0_images_1_seen, .inl (G 1, 6, .inl (zA v_p0_images_1_seen))), (a_p0_imageHeld, .inl (G 3, 2, .inl (zA v_p0_imageHeld)))] → va_S A s.heap H locs → J5 z4 = some (r, o_i_p0_images_0_seenDays, o_i_p0_images_0_bone, o_i_p0_images_0_king, o_i_p0_images_0_days, o_v_p0_images_0_pieces, o_v_p0_images_0_friends, o_v_p0_images_0_spoons, o_v_p0_images_0_eaten, o_v_p0_images_0_seen, o_i_p0_images_1_seenDays, o_i_p0_images_1_bone, o_i_p0_images_1_king, o_i_p0_images_1_days, o_v_p0_images_1_pieces, o_v_p0_images_1_friends, o_v_p0_images_1_spoons, o_v_p0_images_1_eaten, o_v_p0_images_1_seen, o_v_p0_imageHeld) → W p l e rm_X11_keep s m ([.ref a_p0, .int (Int32.ofInt x1)] : List Value).toArray below meth c H locs 0 0 Q (F0 m 23 ls [.int (Int32.ofInt z4)]) := by
      clear hf hl hP hD hS
      intro z4 ls H locs hl hP hD hS hf
      replace hf := jn1_s eJ5 hf
      refine z_topi (fun z6 ez => ?_)
      replace hf := bnd_s hf ez
      clear ez
      refine lv_istore_n (lv' := [(2, .int (Int32.ofInt z6)), (0, .ref a_p0), (1, .int (Int32.ofInt x1))]) hx hb dX11_keep_23 rfl hl (by decide) rfl (fun ls hl => ?_)
      refine lv_aload_n hx hb dX11_keep_24 rfl (lv_at hl 1 rfl) ?_
      refine va_get (D := D) (ci := 11) (v := .ref a_p0_images) (C := RX11) (T := TX11) (N := 15) hx hb hts inX11_keep_X11 hown hK hP 0 rfl rfl 10 (by decide) (hts _ mwX11_keep_2) (fun _ h9 => h9) rfl dX11_keep_25 ?_
      refine lv_iload_n hx hb dX11_keep_28 rfl (lv_at hl 2 rfl) ?_
      have hc := ck_c hf
      replace hf := ck_r hf
      refine va_aldq hx hb hK hP 7 4 rfl rfl (z_ix_in hc) dX11_keep_29 ?_
      clear hc
      rcases Decidable.em (x1 = (0 : Int)) with cc | cc
      ·
        replace hf := ite_t cc hf
        refine W.eq (g2 := F0 m 30 ls [.ref a_p0_images_0]) (by rw [cc]; rfl) ?_
        clear cc
        refine lv_aload_n hx hb dX11_keep_30 rfl (lv_at hl 1 rfl) ?_
        refine va_get (D := D) (ci := 11) (v := .ref a_p0_state) (C := RX11) (T := TX11) (N := 15) hx hb hts inX11_keep_X11 hown hK hP 0 rfl rfl 1 (by decide) (hts _ mwX11_keep_3) (fun _ h9 => h9) rfl dX11_keep_31 ?_
        have hq := bd9_s hf
        clear hf
        obtain ⟨z7, z8, z9, z10, w11, w12, w13, w14, w15, hcall, hf⟩ := hq
        refine gcV (ws' := [(a_p0, .inr (11, [.ref a_p0_rules, .ref a_p0_state, .ref a_p0_tape, .ref a_p0_reader, .ref a_p0_kitchen, .ref a_p0_luck, .ref a_p0_plans, .ref a_p0_coups, .ref a_p0_past, .ref a_p0_fairDays, .ref a_p0_images, .ref a_p0_imageHeld, .ref a_p0_sheets, .int (Int32.ofInt i_p0_latestFault), .int (Int32.ofInt i_p0_latestTear)])), (a_p0_state, .inr (8, [.ref a_p0_state_pieces, .ref a_p0_state_friends, .ref a_p0_state_spoons, .ref a_p0_state_eaten, .ref a_p0_state_seen, .int (Int32.ofInt i_p0_state_seenDays), .int (Int32.ofInt i_p0_state_bone), .int (Int32.ofInt i_p0_state_king), .int (Int32.ofInt i_p0_state_days)])), (a_p0_state_pieces, .inl (G 1, 7, .inl (zA v_p0_state_pieces))), (a_p0_state_friends, .inl (G 1, 7, .inl (zA v_p0_state_friends))), (a_p0_state_spoons, .inl (G 1, 7, .inl (zA v_p0_state_spoons))), (a_p0_state_eaten, .inl (G 1, 7, .inl (zA v_p0_state_eaten))), (a_p0_state_seen, .inl (G 1, 6, .inl (zA v_p0_state_seen))), (a_p0_images, .inl (G 4, 2, .inr (.inr (.inr (.inr (va_up (va_up (fun _ => none) 0 (some a_p0_images_0)) 1 (some a_p0_images_1))))))), (a_p0_images_0, .inr (8, [.ref a_p0_images_0_pieces, .ref a_p0_images_0_friends, .ref a_p0_images_0_spoons, .ref a_p0_images_0_eaten, .ref a_p0_images_0_seen, .int (Int32.ofInt z7), .int (Int32.ofInt z8), .int (Int32.ofInt z9), .int (Int32.ofInt z10)])), (a_p0_images_0_pieces, .inl (G 1, 7, .inl (zA w11))), (a_p0_images_0_friends, .inl (G 1, 7, .inl (zA w12))), (a_p0_images_0_spoons, .inl (G 1, 7, .inl (zA w13))), (a_p0_images_0_eaten, .inl (G 1, 7, .inl (zA w14))), (a_p0_images_0_seen, .inl (G 1, 6, .inl (zA w15))), (a_p0_images_1, .inr (8, [.ref a_p0_images_1_pieces, .ref a_p0_images_1_friends, .ref a_p0_images_1_spoons, .ref a_p0_images_1_eaten, .ref a_p0_images_1_seen, .int (Int32.ofInt i_p0_images_1_seenDays), .int (Int32.ofInt i_p0_images_1_bone), .int (Int32.ofInt i_p0_images_1_king), .int (Int32.ofInt i_p0_images_1_days)])), (a_p0_images_1_pieces, .inl (G 1, 7, .inl (zA v_p0_images_1_pieces))), (a_p0_images_1_friends, .inl (G 1, 7, .inl (zA v_p0_images_1_friends))), (a_p0_images_1_spoons, .inl (G 1, 7, .inl (zA v_p0_images_1_spoons))), (a_p0_images_1_eaten, .inl (G 1, 7, .inl (zA v_p0_images_1_eaten))), (a_p0_images_1_seen, .inl (G 1, 6, .inl (zA v_p0_images_1_seen))), (a_p0_imageHeld, .inl (G 3, 2, .inl (zA v_p0_imageHeld)))]) (va_runV (As := [.ref a_p0_state]) (rest := []) ⟨hx, hb, hml, hown, hts⟩ (c_X8_copy (l := l) (D := D) (G := G) (sz := H.size) (a_p0 := a_p0_images_0) (a_p0_pieces := a_p0_images_0_pieces) (a_p0_friends := a_p0_images_0_friends) (a_p0_spoons := a_p0_images_0_spoons) (a_p0_eaten := a_p0_images_0_eaten) (a_p0_seen := a_p0_images_0_seen) (a_p1 := a_p0_state) (a_p1_pieces := a_p0_state_pieces) (a_p1_friends := a_p0_state_friends) (a_p1_spoons := a_p0_state_spoons) (a_p1_eaten := a_p0_state_eaten) (a_p1_seen := a_p0_state_seen) (i_p0_seenDays := i_p0_images_0_seenDays) (i_p0_bone := i_p0_images_0_bone) (i_p0_king := i_p0_images_0_king) (i_p0_days := i_p0_images_0_days) (v_p0_pieces := v_p0_images_0_pieces) (v_p0_friends := v_p0_images_0_friends) (v_p0_spoons := v_p0_images_0_spoons) (v_p0_eaten := v_p0_images_0_eaten) (v_p0_seen := v_p0_images_0_seen) (i_p1_seenDays := i_p0_state_seenDays) (i_p1_bone := i_p0_state_bone) (i_p1_king := i_p0_state_king) (i_p1_days := i_p0_state_days) (v_p1_pieces := v_p0_state_pieces) (v_p1_friends := v_p0_state_friends) (v_p1_spoons := v_p0_state_spoons) (v_p1_eaten := v_p0_state_eaten) (v_p1_seen := v_p0_state_seen) (o_i_p0_seenDays := z7) (o_i_p0_bone := z8) (o_i_p0_king := z9) (o_i_p0_days := z10) (o_v_p0_pieces := w11) (o_v_p0_friends := w12) (o_v_p0_spoons := w13) (o_v_p0_eaten := w14) (o_v_p0_seen := w15) (hf := hcall)) (cwV 1 hts gX11_keep_X8_copy rfl rfl rfl (by decide +kernel) ⟨Nat.le_of_ble_eq_true rfl, Nat.le_of_ble_eq_true rfl⟩) (preG_V (ci := 8) (hP.sub [8, 9, 10, 11, 12, 13, 1, 2, 3, 4, 5, 6] rfl) (hD.sub [8, 9, 10, 11, 12, 13, 1, 2, 3, 4, 5, 6] rfl rfl) hK rfl rfl) rfl rfl hl.1 rfl (lv_room (Nat.le_of_ble_eq_true rfl)) dX11_keep_34 ⟨Nat.le_of_ble_eq_true rfl, Nat.le_of_ble_eq_true rfl⟩) hP hD hS hA [8, 9, 10, 11, 12, 13, 1, 2, 3, 4, 5, 6] [0, 7, 14, 15, 16, 17, 18, 19, 20] [0, 15, 16, 17, 18, 19, 20, 1, 9, 10, 11, 12, 13, 14, 2, 3, 4, 5, 6, 7, 8] rfl rfl rfl (by decide) rfl rfl rfl (fun H locs hP hD hS => ?_)
        clear hcall
        refine lv_aload_n hx hb dX11_keep_37 rfl (lv_at hl 1 rfl) ?_
        refine va_get (D := D) (ci := 11) (v := .ref a_p0_imageHeld) (C := RX11) (T := TX11) (N := 15) hx hb hts inX11_keep_X11 hown hK hP 0 rfl rfl 11 (by decide) (hts _ mwX11_keep_1) (fun _ h9 => h9) rfl dX11_keep_38 ?_
        refine lv_iload_n hx hb dX11_keep_41 rfl (lv_at hl 2 rfl) ?_
        refine lv_iconst (v := Int32.ofInt (1 : Int)) hx hb dX11_keep_42 (by decide) ?_
        have hc := ck_c hf
        replace hf := ck_r hf
        have hz := ck_c hf
        replace hf := ck_r hf
        refine zs_zast (wf := fun w16 => [(a_p0, .inr (11, [.ref a_p0_rules, .ref a_p0_state, .ref a_p0_tape, .ref a_p0_reader, .ref a_p0_kitchen, .ref a_p0_luck, .ref a_p0_plans, .ref a_p0_coups, .ref a_p0_past, .ref a_p0_fairDays, .ref a_p0_images, .ref a_p0_imageHeld, .ref a_p0_sheets, .int (Int32.ofInt i_p0_latestFault), .int (Int32.ofInt i_p0_latestTear)])), (a_p0_state, .inr (8, [.ref a_p0_state_pieces, .ref a_p0_state_friends, .ref a_p0_state_spoons, .ref a_p0_state_eaten, .ref a_p0_state_seen, .int (Int32.ofInt i_p0_state_seenDays), .int (Int32.ofInt i_p0_state_bone), .int (Int32.ofInt i_p0_state_king), .int (Int32.ofInt i_p0_state_days)])), (a_p0_state_pieces, .inl (G 1, 7, .inl (zA v_p0_state_pieces))), (a_p0_state_friends, .inl (G 1, 7, .inl (zA v_p0_state_friends))), (a_p0_state_spoons, .inl (G 1, 7, .inl (zA v_p0_state_spoons))), (a_p0_state_eaten, .inl (G 1, 7, .inl (zA v_p0_state_eaten))), (a_p0_state_seen, .inl (G 1, 6, .inl (zA v_p0_state_seen))), (a_p0_images, .inl (G 4, 2, .inr (.inr (.inr (.inr (va_up (va_up (fun _ => none) 0 (some a_p0_images_0)) 1 (some a_p0_images_1))))))), (a_p0_images_0, .inr (8, [.ref a_p0_images_0_pieces, .ref a_p0_images_0_friends, .ref a_p0_images_0_spoons, .ref a_p0_images_0_eaten, .ref a_p0_images_0_seen, .int (Int32.ofInt z7), .int (Int32.ofInt z8), .int (Int32.ofInt z9), .int (Int32.ofInt z10)])), (a_p0_images_0_pieces, .inl (G 1, 7, .inl (zA w11))), (a_p0_images_0_friends, .inl (G 1, 7, .inl (zA w12))), (a_p0_images_0_spoons, .inl (G 1, 7, .inl (zA w13))), (a_p0_images_0_eaten, .inl (G 1, 7, .inl (zA w14))), (a_p0_images_0_seen, .inl (G 1, 6, .inl (zA w15))), (a_p0_images_1, .inr (8, [.ref a_p0_images_1_pieces, .ref a_p0_images_1_friends, .ref a_p0_images_1_spoons, .ref a_p0_images_1_eaten, .ref a_p0_images_1_seen, .int (Int32.ofInt i_p0_images_1_seenDays), .int (Int32.ofInt i_p0_images_1_bone), .int (Int32.ofInt i_p0_images_1_king), .int (Int32.ofInt i_p0_images_1_days)])), (a_p0_images_1_pieces, .inl (G 1, 7, .inl (zA v_p0_images_1_pieces))), (a_p0_images_1_friends, .inl (G 1, 7, .inl (zA v_p0_images_1_friends))), (a_p0_images_1_spoons, .inl (G 1, 7, .inl (zA v_p0_images_1_spoons))), (a_p0_images_1_eaten, .inl (G 1, 7, .inl (zA v_p0_images_1_eaten))), (a_p0_images_1_seen, .inl (G 1, 6, .inl (zA v_p0_images_1_seen))), (a_p0_imageHeld, .inl (G 3, 2, .inl (zA w16)))]) hx hb hK hP hD hS 20 3 rfl rfl hc (z_bv hz) dX11_keep_43 (fun _ => rfl) (fun w16 ez H locs hP hD hS => ?_)
        replace hf := bnd_s hf ez
        clear ez hc
        refine lv_iload_n hx hb dX11_keep_44 rfl (lv_at hl 0 rfl) ?_
        obtain ⟨rfl, rfl, rfl, rfl, rfl, rfl, rfl, rfl, rfl, rfl, rfl, rfl, rfl, rfl, rfl, rfl, rfl, rfl, rfl, rfl⟩ := ou20 hf
        rw [hQ]
        exact W.iret hx hb hr (fun t ht hW => ⟨⟨_, (), rfl, rfl, by rw [ht]; exact hP, va_K.moved hW.alike hK, hD⟩, hS.F ht⟩) hS.2.2 dX11_keep_45
      replace hf := ite_f cc hf
      clear cc
      rcases Decidable.em (x1 = (1 : Int)) with cc | cc
      ·
        replace hf := ite_t cc hf
        refine W.eq (g2 := F0 m 30 ls [.ref a_p0_images_1]) (by rw [cc]; rfl) ?_
        clear cc
        refine lv_aload_n hx hb dX11_keep_30 rfl (lv_at hl 1 rfl) ?_
        refine va_get (D := D) (ci := 11) (v := .ref a_p0_state) (C := RX11) (T := TX11) (N := 15) hx hb hts inX11_keep_X11 hown hK hP 0 rfl rfl 1 (by decide) (hts _ mwX11_keep_3) (fun _ h9 => h9) rfl dX11_keep_31 ?_
        have hq := bd9_s hf
        clear hf
        obtain ⟨z17, z18, z19, z20, w21, w22, w23, w24, w25, hcall, hf⟩ := hq
        refine gcV (ws' := [(a_p0, .inr (11, [.ref a_p0_rules, .ref a_p0_state, .ref a_p0_tape, .ref a_p0_reader, .ref a_p0_kitchen, .ref a_p0_luck, .ref a_p0_plans, .ref a_p0_coups, .ref a_p0_past, .ref a_p0_fairDays, .ref a_p0_images, .ref a_p0_imageHeld, .ref a_p0_sheets, .int (Int32.ofInt i_p0_latestFault), .int (Int32.ofInt i_p0_latestTear)])), (a_p0_state, .inr (8, [.ref a_p0_state_pieces, .ref a_p0_state_friends, .ref a_p0_state_spoons, .ref a_p0_state_eaten, .ref a_p0_state_seen, .int (Int32.ofInt i_p0_state_seenDays), .int (Int32.ofInt i_p0_state_bone), .int (Int32.ofInt i_p0_state_king), .int (Int32.ofInt i_p0_state_days)])), (a_p0_state_pieces, .inl (G 1, 7, .inl (zA v_p0_state_pieces))), (a_p0_state_friends, .inl (G 1, 7, .inl (zA v_p0_state_friends))), (a_p0_state_spoons, .inl (G 1, 7, .inl (zA v_p0_state_spoons))), (a_p0_state_eaten, .inl (G 1, 7, .inl (zA v_p0_state_eaten))), (a_p0_state_seen, .inl (G 1, 6, .inl (zA v_p0_state_seen))), (a_p0_images, .inl (G 4, 2, .inr (.inr (.inr (.inr (va_up (va_up (fun _ => none) 0 (some a_p0_images_0)) 1 (some a_p0_images_1))))))), (a_p0_images_0, .inr (8, [.ref a_p0_images_0_pieces, .ref a_p0_images_0_friends, .ref a_p0_images_0_spoons, .ref a_p0_images_0_eaten, .ref a_p0_images_0_seen, .int (Int32.ofInt i_p0_images_0_seenDays), .int (Int32.ofInt i_p0_images_0_bone), .int (Int32.ofInt i_p0_images_0_king), .int (Int32.ofInt i_p0_images_0_days)])), (a_p0_images_0_pieces, .inl (G 1, 7, .inl (zA v_p0_images_0_pieces))), (a_p0_images_0_friends, .inl (G 1, 7, .inl (zA v_p0_images_0_friends))), (a_p0_images_0_spoons, .inl (G 1, 7, .inl (zA v_p0_images_0_spoons))), (a_p0_images_0_eaten, .inl (G 1, 7, .inl (zA v_p0_images_0_eaten))), (a_p0_images_0_seen, .inl (G 1, 6, .inl (zA v_p0_images_0_seen))), (a_p0_images_1, .inr (8, [.ref a_p0_images_1_pieces, .ref a_p0_images_1_friends, .ref a_p0_images_1_spoons, .ref a_p0_images_1_eaten, .ref a_p0_images_1_seen, .int (Int32.ofInt z17), .int (Int32.ofInt z18), .int (Int32.ofInt z19), .int (Int32.ofInt z20)])), (a_p0_images_1_pieces, .inl (G 1, 7, .inl (zA w21))), (a_p0_images_1_friends, .inl (G 1, 7, .inl (zA w22))), (a_p0_images_1_spoons, .inl (G 1, 7, .inl (zA w23))), (a_p0_images_1_eaten, .inl (G 1, 7, .inl (zA w24))), (a_p0_images_1_seen, .inl (G 1, 6, .inl (zA w25))), (a_p0_imageHeld, .inl (G 3, 2, .inl (zA v_p0_imageHeld)))]) (va_runV (As := [.ref a_p0_state]) (rest := []) ⟨hx, hb, hml, hown, hts⟩ (c_X8_copy (l := l) (D := D) (G := G) (sz := H.size) (a_p0 := a_p0_images_1) (a_p0_pieces := a_p0_images_1_pieces) (a_p0_friends := a_p0_images_1_friends) (a_p0_spoons := a_p0_images_1_spoons) (a_p0_eaten := a_p0_images_1_eaten) (a_p0_seen := a_p0_images_1_seen) (a_p1 := a_p0_state) (a_p1_pieces := a_p0_state_pieces) (a_p1_friends := a_p0_state_friends) (a_p1_spoons := a_p0_state_spoons) (a_p1_eaten := a_p0_state_eaten) (a_p1_seen := a_p0_state_seen) (i_p0_seenDays := i_p0_images_1_seenDays) (i_p0_bone := i_p0_images_1_bone) (i_p0_king := i_p0_images_1_king) (i_p0_days := i_p0_images_1_days) (v_p0_pieces := v_p0_images_1_pieces) (v_p0_friends := v_p0_images_1_friends) (v_p0_spoons := v_p0_images_1_spoons) (v_p0_eaten := v_p0_images_1_eaten) (v_p0_seen := v_p0_images_1_seen) (i_p1_seenDays := i_p0_state_seenDays) (i_p1_bone := i_p0_state_bone) (i_p1_king := i_p0_state_king) (i_p1_days := i_p0_state_days) (v_p1_pieces := v_p0_state_pieces) (v_p1_friends := v_p0_state_friends) (v_p1_spoons := v_p0_state_spoons) (v_p1_eaten := v_p0_state_eaten) (v_p1_seen := v_p0_state_seen) (o_i_p0_seenDays := z17) (o_i_p0_bone := z18) (o_i_p0_king := z19) (o_i_p0_days := z20) (o_v_p0_pieces := w21) (o_v_p0_friends := w22) (o_v_p0_spoons := w23) (o_v_p0_eaten := w24) (o_v_p0_seen := w25) (hf := hcall)) (cwV 1 hts gX11_keep_X8_copy rfl rfl rfl (by decide +kernel) ⟨Nat.le_of_ble_eq_true rfl, Nat.le_of_ble_eq_true rfl⟩) (preG_V (ci := 8) (hP.sub [14, 15, 16, 17, 18, 19, 1, 2, 3, 4, 5, 6] rfl) (hD.sub [14, 15, 16, 17, 18, 19, 1, 2, 3, 4, 5, 6] rfl rfl) hK rfl rfl) rfl rfl hl.1 rfl (lv_room (Nat.le_of_ble_eq_true rfl)) dX11_keep_34 ⟨Nat.le_of_ble_eq_true rfl, Nat.le_of_ble_eq_true rfl⟩) hP hD hS hA [14, 15, 16, 17, 18, 19, 1, 2, 3, 4, 5, 6] [0, 7, 8, 9, 10, 11, 12, 13, 20] [0, 15, 16, 17, 18, 19, 20, 1, 2, 3, 4, 5, 6, 7, 9, 10, 11, 12, 13, 14, 8] rfl rfl rfl (by decide) rfl rfl rfl (fun H locs hP hD hS => ?_)
        clear hcall
        refine lv_aload_n hx hb dX11_keep_37 rfl (lv_at hl 1 rfl) ?_
        refine va_get (D := D) (ci := 11) (v := .ref a_p0_imageHeld) (C := RX11) (T := TX11) (N := 15) hx hb hts inX11_keep_X11 hown hK hP 0 rfl rfl 11 (by decide) (hts _ mwX11_keep_1) (fun _ h9 => h9) rfl dX11_keep_38 ?_
        refine lv_iload_n hx hb dX11_keep_41 rfl (lv_at hl 2 rfl) ?_
        refine lv_iconst (v := Int32.ofInt (1 : Int)) hx hb dX11_keep_42 (by decide) ?_
        have hc := ck_c hf
        replace hf := ck_r hf
        have hz := ck_c hf
        replace hf := ck_r hf
        refine zs_zast (wf := fun w26 => [(a_p0, .inr (11, [.ref a_p0_rules, .ref a_p0_state, .ref a_p0_tape, .ref a_p0_reader, .ref a_p0_kitchen, .ref a_p0_luck, .ref a_p0_plans, .ref a_p0_coups, .ref a_p0_past, .ref a_p0_fairDays, .ref a_p0_images, .ref a_p0_imageHeld, .ref a_p0_sheets, .int (Int32.ofInt i_p0_latestFault), .int (Int32.ofInt i_p0_latestTear)])), (a_p0_state, .inr (8, [.ref a_p0_state_pieces, .ref a_p0_state_friends, .ref a_p0_state_spoons, .ref a_p0_state_eaten, .ref a_p0_state_seen, .int (Int32.ofInt i_p0_state_seenDays), .int (Int32.ofInt i_p0_state_bone), .int (Int32.ofInt i_p0_state_king), .int (Int32.ofInt i_p0_state_days)])), (a_p0_state_pieces, .inl (G 1, 7, .inl (zA v_p0_state_pieces))), (a_p0_state_friends, .inl (G 1, 7, .inl (zA v_p0_state_friends))), (a_p0_state_spoons, .inl (G 1, 7, .inl (zA v_p0_state_spoons))), (a_p0_state_eaten, .inl (G 1, 7, .inl (zA v_p0_state_eaten))), (a_p0_state_seen, .inl (G 1, 6, .inl (zA v_p0_state_seen))), (a_p0_images, .inl (G 4, 2, .inr (.inr (.inr (.inr (va_up (va_up (fun _ => none) 0 (some a_p0_images_0)) 1 (some a_p0_images_1))))))), (a_p0_images_0, .inr (8, [.ref a_p0_images_0_pieces, .ref a_p0_images_0_friends, .ref a_p0_images_0_spoons, .ref a_p0_images_0_eaten, .ref a_p0_images_0_seen, .int (Int32.ofInt i_p0_images_0_seenDays), .int (Int32.ofInt i_p0_images_0_bone), .int (Int32.ofInt i_p0_images_0_king), .int (Int32.ofInt i_p0_images_0_days)])), (a_p0_images_0_pieces, .inl (G 1, 7, .inl (zA v_p0_images_0_pieces))), (a_p0_images_0_friends, .inl (G 1, 7, .inl (zA v_p0_images_0_friends))), (a_p0_images_0_spoons, .inl (G 1, 7, .inl (zA v_p0_images_0_spoons))), (a_p0_images_0_eaten, .inl (G 1, 7, .inl (zA v_p0_images_0_eaten))), (a_p0_images_0_seen, .inl (G 1, 6, .inl (zA v_p0_images_0_seen))), (a_p0_images_1, .inr (8, [.ref a_p0_images_1_pieces, .ref a_p0_images_1_friends, .ref a_p0_images_1_spoons, .ref a_p0_images_1_eaten, .ref a_p0_images_1_seen, .int (Int32.ofInt z17), .int (Int32.ofInt z18), .int (Int32.ofInt z19), .int (Int32.ofInt z20)])), (a_p0_images_1_pieces, .inl (G 1, 7, .inl (zA w21))), (a_p0_images_1_friends, .inl (G 1, 7, .inl (zA w22))), (a_p0_images_1_spoons, .inl (G 1, 7, .inl (zA w23))), (a_p0_images_1_eaten, .inl (G 1, 7, .inl (zA w24))), (a_p0_images_1_seen, .inl (G 1, 6, .inl (zA w25))), (a_p0_imageHeld, .inl (G 3, 2, .inl (zA w26)))]) hx hb hK hP hD hS 20 3 rfl rfl hc (z_bv hz) dX11_keep_43 (fun _ => rfl) (fun w26 ez H locs hP hD hS => ?_)
        replace hf := bnd_s hf ez
        clear ez hc
        refine lv_iload_n hx hb dX11_keep_44 rfl (lv_at hl 0 rfl) ?_
        obtain ⟨rfl, rfl, rfl, rfl, rfl, rfl, rfl, rfl, rfl, rfl, rfl, rfl, rfl, rfl, rfl, rfl, rfl, rfl, rfl, rfl⟩ := ou20 hf
        rw [hQ]
        exact W.iret hx hb hr (fun t ht hW => ⟨⟨_, (), rfl, rfl, by rw [ht]; exact hP, va_K.moved hW.alike hK, hD⟩, hS.F ht⟩) hS.2.2 dX11_keep_45
      replace hf := ite_f cc hf
      clear cc
      cases hf
    refine lv_if_eq (tgt := 22) hx hb dX11_keep_15 (by decide) (fun cc => ?_) (fun cc => ?_)
    ·
      replace hf := ite_t ((z_eq0 hr2).mp cc) hf
      clear cc
      refine lv_iconst (v := Int32.ofInt (0 : Int)) hx hb dX11_keep_22 (by decide) ?_
      exact hJ5 _ _ _ _ (lv_sub hl [0, 1] rfl) hP hD hS hf
    ·
      replace hf := ite_f (fun h9 => cc ((z_eq0 hr2).mpr h9)) hf
      clear cc
      refine lv_iconst (v := Int32.ofInt (1 : Int)) hx hb dX11_keep_18 (by decide) ?_
      refine lv_goto (tgt := 23) hx hb dX11_keep_19 (by decide) ?_
      exact hJ5 _ _ _ _ (lv_sub hl [0, 1] rfl) hP hD hS hf
  ·
    replace hf := ite_t ((z_eq0 hr1).mp cc) hf
    clear cc
    refine lv_iconst (v := Int32.ofInt (-1 : Int)) hx hb dX11_keep_7 (by decide) ?_
    obtain ⟨rfl, rfl, rfl, rfl, rfl, rfl, rfl, rfl, rfl, rfl, rfl, rfl, rfl, rfl, rfl, rfl, rfl, rfl, rfl, rfl⟩ := ou20 hf
    rw [hQ]
    exact W.iret hx hb hr (fun t ht hW => ⟨⟨_, (), rfl, rfl, by rw [ht]; exact hP, va_K.moved hW.alike hK, hD⟩, hS.F ht⟩) hS.2.2 dX11_keep_8

noncomputable def f_X11_back (i_p0_state_seenDays : Int) (i_p0_state_bone : Int) (i_p0_state_king : Int) (i_p0_state_days : Int) (v_p0_state_pieces : (Int → Int)) (v_p0_state_friends : (Int → Int)) (v_p0_state_spoons : (Int → Int)) (v_p0_state_eaten : (Int → Int)) (v_p0_state_seen : (Int → Int)) (i_p0_images_0_seenDays : Int) (i_p0_images_0_bone : Int) (i_p0_images_0_king : Int) (i_p0_images_0_days : Int) (v_p0_images_0_pieces : (Int → Int)) (v_p0_images_0_friends : (Int → Int)) (v_p0_images_0_spoons : (Int → Int)) (v_p0_images_0_eaten : (Int → Int)) (v_p0_images_0_seen : (Int → Int)) (i_p0_images_1_seenDays : Int) (i_p0_images_1_bone : Int) (i_p0_images_1_king : Int) (i_p0_images_1_days : Int) (v_p0_images_1_pieces : (Int → Int)) (v_p0_images_1_friends : (Int → Int)) (v_p0_images_1_spoons : (Int → Int)) (v_p0_images_1_eaten : (Int → Int)) (v_p0_images_1_seen : (Int → Int)) (v_p0_imageHeld : (Int → Int)) (x1 : Int) : Option (Int × Int × Int × Int × Int × (Int → Int) × (Int → Int) × (Int → Int) × (Int → Int) × (Int → Int)) := (bd1 (f_X11_isImage x1) (fun (z1 : Int) => (ck (z_r32 z1) (if z1 = (0 : Int) then (some ((-1 : Int), i_p0_state_seenDays, i_p0_state_bone, i_p0_state_king, i_p0_state_days, v_p0_state_pieces, v_p0_state_friends, v_p0_state_spoons, v_p0_state_eaten, v_p0_state_seen)) else (ck (z_ix x1 2) (ck (z_r32 (v_p0_imageHeld x1)) (if (v_p0_imageHeld x1) = (0 : Int) then (some ((-2 : Int), i_p0_state_seenDays, i_p0_state_bone, i_p0_state_king, i_p0_state_days, v_p0_state_pieces, v_p0_state_friends, v_p0_state_spoons, v_p0_state_eaten, v_p0_state_seen)) else (ck (z_ix x1 2) (if x1 = (0 : Int) then (bd9 (f_X8_copy v_p0_state_pieces v_p0_state_friends v_p0_state_spoons v_p0_state_eaten v_p0_state_seen i_p0_images_0_seenDays i_p0_images_0_bone i_p0_images_0_king i_p0_images_0_days v_p0_images_0_pieces v_p0_images_0_friends v_p0_images_0_spoons v_p0_images_0_eaten v_p0_images_0_seen) (fun (z4 : Int) (z5 : Int) (z6 : Int) (z7 : Int) (w8 : (Int → Int)) (w9 : (Int → Int)) (w10 : (Int → Int)) (w11 : (Int → Int)) (w12 : (Int → Int)) => (some (z6, z4, z5, z6, z7, w8, w9, w10, w11, w12)))) else (if x1 = (1 : Int) then (bd9 (f_X8_copy v_p0_state_pieces v_p0_state_friends v_p0_state_spoons v_p0_state_eaten v_p0_state_seen i_p0_images_1_seenDays i_p0_images_1_bone i_p0_images_1_king i_p0_images_1_days v_p0_images_1_pieces v_p0_images_1_friends v_p0_images_1_spoons v_p0_images_1_eaten v_p0_images_1_seen) (fun (z13 : Int) (z14 : Int) (z15 : Int) (z16 : Int) (w17 : (Int → Int)) (w18 : (Int → Int)) (w19 : (Int → Int)) (w20 : (Int → Int)) (w21 : (Int → Int)) => (some (z15, z13, z14, z15, z16, w17, w18, w19, w20, w21)))) else none))))))))))
abbrev rm_X11_back : Room := { frames := 2, cells := 0, slots := 0, locals := 81 }
theorem inX11_back_X11 : ∀ w ∈ wsX110, w ∈ wsX11_back := by decide +kernel
theorem mwX11_back_1 : Cond.fieldLink RX11 89 "LadleKings" "imageHeld" "[Z" ∈ wsX11_back := by decide +kernel
theorem mwX11_back_2 : Cond.fieldLink RX11 19 "LadleKings" "state" "LLadleKings$State;" ∈ wsX11_back := by decide +kernel
theorem mwX11_back_3 : Cond.fieldLink RX11 85 "LadleKings" "images" "[LLadleKings$State;" ∈ wsX11_back := by decide +kernel
theorem inX11_back_X8 : ∀ w ∈ wsX80, w ∈ wsX11_back := by decide +kernel
theorem mwX11_back_5 : Cond.fieldLink RX11 136 "LadleKings$State" "king" "I" ∈ wsX11_back := by decide +kernel
set_option maxHeartbeats 8000000 in
set_option maxRecDepth 100000 in
theorem c_X11_back (l : Launch) (D : va_G) (G : Nat → ClassId) (sz : Nat) (a_p0 : Nat) (a_p0_rules : Nat) (a_p0_state : Nat) (a_p0_tape : Nat) (a_p0_reader : Nat) (a_p0_kitchen : Nat) (a_p0_luck : Nat) (a_p0_plans : Nat) (a_p0_coups : Nat) (a_p0_past : Nat) (a_p0_fairDays : Nat) (a_p0_images : Nat) (a_p0_imageHeld : Nat) (a_p0_sheets : Nat) (a_p0_state_pieces : Nat) (a_p0_state_friends : Nat) (a_p0_state_spoons : Nat) (a_p0_state_eaten : Nat) (a_p0_state_seen : Nat) (a_p0_images_0 : Nat) (a_p0_images_1 : Nat) (a_p0_images_0_pieces : Nat) (a_p0_images_0_friends : Nat) (a_p0_images_0_spoons : Nat) (a_p0_images_0_eaten : Nat) (a_p0_images_0_seen : Nat) (a_p0_images_1_pieces : Nat) (a_p0_images_1_friends : Nat) (a_p0_images_1_spoons : Nat) (a_p0_images_1_eaten : Nat) (a_p0_images_1_seen : Nat) (i_p0_latestFault : Int) (i_p0_latestTear : Int) (i_p0_state_seenDays : Int) (i_p0_state_bone : Int) (i_p0_state_king : Int) (i_p0_state_days : Int) (v_p0_state_pieces : (Int → Int)) (v_p0_state_friends : (Int → Int)) (v_p0_state_spoons : (Int → Int)) (v_p0_state_eaten : (Int → Int)) (v_p0_state_seen : (Int → Int)) (i_p0_images_0_seenDays : Int) (i_p0_images_0_bone : Int) (i_p0_images_0_king : Int) (i_p0_images_0_days : Int) (v_p0_images_0_pieces : (Int → Int)) (v_p0_images_0_friends : (Int → Int)) (v_p0_images_0_spoons : (Int → Int)) (v_p0_images_0_eaten : (Int → Int)) (v_p0_images_0_seen : (Int → Int)) (i_p0_images_1_seenDays : Int) (i_p0_images_1_bone : Int) (i_p0_images_1_king : Int) (i_p0_images_1_days : Int) (v_p0_images_1_pieces : (Int → Int)) (v_p0_images_1_friends : (Int → Int)) (v_p0_images_1_spoons : (Int → Int)) (v_p0_images_1_eaten : (Int → Int)) (v_p0_images_1_seen : (Int → Int)) (v_p0_imageHeld : (Int → Int)) (x1 : Int) (r : Int) (o_i_p0_state_seenDays : Int) (o_i_p0_state_bone : Int) (o_i_p0_state_king : Int) (o_i_p0_state_days : Int) (o_v_p0_state_pieces : (Int → Int)) (o_v_p0_state_friends : (Int → Int)) (o_v_p0_state_spoons : (Int → Int)) (o_v_p0_state_eaten : (Int → Int)) (o_v_p0_state_seen : (Int → Int)) (hf : f_X11_back i_p0_state_seenDays i_p0_state_bone i_p0_state_king i_p0_state_days v_p0_state_pieces v_p0_state_friends v_p0_state_spoons v_p0_state_eaten v_p0_state_seen i_p0_images_0_seenDays i_p0_images_0_bone i_p0_images_0_king i_p0_images_0_days v_p0_images_0_pieces v_p0_images_0_friends v_p0_images_0_spoons v_p0_images_0_eaten v_p0_images_0_seen i_p0_images_1_seenDays i_p0_images_1_bone i_p0_images_1_king i_p0_images_1_days v_p0_images_1_pieces v_p0_images_1_friends v_p0_images_1_spoons v_p0_images_1_eaten v_p0_images_1_seen v_p0_imageHeld x1 = some (r, o_i_p0_state_seenDays, o_i_p0_state_bone, o_i_p0_state_king, o_i_p0_state_days, o_v_p0_state_pieces, o_v_p0_state_friends, o_v_p0_state_spoons, o_v_p0_state_eaten, o_v_p0_state_seen)) : Met l yX11_back wsX11_back rm_X11_back (pcG D G [.ref a_p0, .int (Int32.ofInt x1)] sz [(a_p0, .inr (11, [.ref a_p0_rules, .ref a_p0_state, .ref a_p0_tape, .ref a_p0_reader, .ref a_p0_kitchen, .ref a_p0_luck, .ref a_p0_plans, .ref a_p0_coups, .ref a_p0_past, .ref a_p0_fairDays, .ref a_p0_images, .ref a_p0_imageHeld, .ref a_p0_sheets, .int (Int32.ofInt i_p0_latestFault), .int (Int32.ofInt i_p0_latestTear)])), (a_p0_state, .inr (8, [.ref a_p0_state_pieces, .ref a_p0_state_friends, .ref a_p0_state_spoons, .ref a_p0_state_eaten, .ref a_p0_state_seen, .int (Int32.ofInt i_p0_state_seenDays), .int (Int32.ofInt i_p0_state_bone), .int (Int32.ofInt i_p0_state_king), .int (Int32.ofInt i_p0_state_days)])), (a_p0_state_pieces, .inl (G 1, 7, .inl (zA v_p0_state_pieces))), (a_p0_state_friends, .inl (G 1, 7, .inl (zA v_p0_state_friends))), (a_p0_state_spoons, .inl (G 1, 7, .inl (zA v_p0_state_spoons))), (a_p0_state_eaten, .inl (G 1, 7, .inl (zA v_p0_state_eaten))), (a_p0_state_seen, .inl (G 1, 6, .inl (zA v_p0_state_seen))), (a_p0_images, .inl (G 4, 2, .inr (.inr (.inr (.inr (va_up (va_up (fun _ => none) 0 (some a_p0_images_0)) 1 (some a_p0_images_1))))))), (a_p0_images_0, .inr (8, [.ref a_p0_images_0_pieces, .ref a_p0_images_0_friends, .ref a_p0_images_0_spoons, .ref a_p0_images_0_eaten, .ref a_p0_images_0_seen, .int (Int32.ofInt i_p0_images_0_seenDays), .int (Int32.ofInt i_p0_images_0_bone), .int (Int32.ofInt i_p0_images_0_king), .int (Int32.ofInt i_p0_images_0_days)])), (a_p0_images_0_pieces, .inl (G 1, 7, .inl (zA v_p0_images_0_pieces))), (a_p0_images_0_friends, .inl (G 1, 7, .inl (zA v_p0_images_0_friends))), (a_p0_images_0_spoons, .inl (G 1, 7, .inl (zA v_p0_images_0_spoons))), (a_p0_images_0_eaten, .inl (G 1, 7, .inl (zA v_p0_images_0_eaten))), (a_p0_images_0_seen, .inl (G 1, 6, .inl (zA v_p0_images_0_seen))), (a_p0_images_1, .inr (8, [.ref a_p0_images_1_pieces, .ref a_p0_images_1_friends, .ref a_p0_images_1_spoons, .ref a_p0_images_1_eaten, .ref a_p0_images_1_seen, .int (Int32.ofInt i_p0_images_1_seenDays), .int (Int32.ofInt i_p0_images_1_bone), .int (Int32.ofInt i_p0_images_1_king), .int (Int32.ofInt i_p0_images_1_days)])), (a_p0_images_1_pieces, .inl (G 1, 7, .inl (zA v_p0_images_1_pieces))), (a_p0_images_1_friends, .inl (G 1, 7, .inl (zA v_p0_images_1_friends))), (a_p0_images_1_spoons, .inl (G 1, 7, .inl (zA v_p0_images_1_spoons))), (a_p0_images_1_eaten, .inl (G 1, 7, .inl (zA v_p0_images_1_eaten))), (a_p0_images_1_seen, .inl (G 1, 6, .inl (zA v_p0_images_1_seen))), (a_p0_imageHeld, .inl (G 3, 2, .inl (zA v_p0_imageHeld)))]) (qcI D G (Int32.ofInt r) [(a_p0, .inr (11, [.ref a_p0_rules, .ref a_p0_state, .ref a_p0_tape, .ref a_p0_reader, .ref a_p0_kitchen, .ref a_p0_luck, .ref a_p0_plans, .ref a_p0_coups, .ref a_p0_past, .ref a_p0_fairDays, .ref a_p0_images, .ref a_p0_imageHeld, .ref a_p0_sheets, .int (Int32.ofInt i_p0_latestFault), .int (Int32.ofInt i_p0_latestTear)])), (a_p0_state, .inr (8, [.ref a_p0_state_pieces, .ref a_p0_state_friends, .ref a_p0_state_spoons, .ref a_p0_state_eaten, .ref a_p0_state_seen, .int (Int32.ofInt o_i_p0_state_seenDays), .int (Int32.ofInt o_i_p0_state_bone), .int (Int32.ofInt o_i_p0_state_king), .int (Int32.ofInt o_i_p0_state_days)])), (a_p0_state_pieces, .inl (G 1, 7, .inl (zA o_v_p0_state_pieces))), (a_p0_state_friends, .inl (G 1, 7, .inl (zA o_v_p0_state_friends))), (a_p0_state_spoons, .inl (G 1, 7, .inl (zA o_v_p0_state_spoons))), (a_p0_state_eaten, .inl (G 1, 7, .inl (zA o_v_p0_state_eaten))), (a_p0_state_seen, .inl (G 1, 6, .inl (zA o_v_p0_state_seen))), (a_p0_images, .inl (G 4, 2, .inr (.inr (.inr (.inr (va_up (va_up (fun _ => none) 0 (some a_p0_images_0)) 1 (some a_p0_images_1))))))), (a_p0_images_0, .inr (8, [.ref a_p0_images_0_pieces, .ref a_p0_images_0_friends, .ref a_p0_images_0_spoons, .ref a_p0_images_0_eaten, .ref a_p0_images_0_seen, .int (Int32.ofInt i_p0_images_0_seenDays), .int (Int32.ofInt i_p0_images_0_bone), .int (Int32.ofInt i_p0_images_0_king), .int (Int32.ofInt i_p0_images_0_days)])), (a_p0_images_0_pieces, .inl (G 1, 7, .inl (zA v_p0_images_0_pieces))), (a_p0_images_0_friends, .inl (G 1, 7, .inl (zA v_p0_images_0_friends))), (a_p0_images_0_spoons, .inl (G 1, 7, .inl (zA v_p0_images_0_spoons))), (a_p0_images_0_eaten, .inl (G 1, 7, .inl (zA v_p0_images_0_eaten))), (a_p0_images_0_seen, .inl (G 1, 6, .inl (zA v_p0_images_0_seen))), (a_p0_images_1, .inr (8, [.ref a_p0_images_1_pieces, .ref a_p0_images_1_friends, .ref a_p0_images_1_spoons, .ref a_p0_images_1_eaten, .ref a_p0_images_1_seen, .int (Int32.ofInt i_p0_images_1_seenDays), .int (Int32.ofInt i_p0_images_1_bone), .int (Int32.ofInt i_p0_images_1_king), .int (Int32.ofInt i_p0_images_1_days)])), (a_p0_images_1_pieces, .inl (G 1, 7, .inl (zA v_p0_images_1_pieces))), (a_p0_images_1_friends, .inl (G 1, 7, .inl (zA v_p0_images_1_friends))), (a_p0_images_1_spoons, .inl (G 1, 7, .inl (zA v_p0_images_1_spoons))), (a_p0_images_1_eaten, .inl (G 1, 7, .inl (zA v_p0_images_1_eaten))), (a_p0_images_1_seen, .inl (G 1, 6, .inl (zA v_p0_images_1_seen))), (a_p0_imageHeld, .inl (G 3, 2, .inl (zA v_p0_imageHeld)))] (va_A [(a_p0, .inr (11, [.ref a_p0_rules, .ref a_p0_state, .ref a_p0_tape, .ref a_p0_reader, .ref a_p0_kitchen, .ref a_p0_luck, .ref a_p0_plans, .ref a_p0_coups, .ref a_p0_past, .ref a_p0_fairDays, .ref a_p0_images, .ref a_p0_imageHeld, .ref a_p0_sheets, .int (Int32.ofInt i_p0_latestFault), .int (Int32.ofInt i_p0_latestTear)])), (a_p0_state, .inr (8, [.ref a_p0_state_pieces, .ref a_p0_state_friends, .ref a_p0_state_spoons, .ref a_p0_state_eaten, .ref a_p0_state_seen, .int (Int32.ofInt i_p0_state_seenDays), .int (Int32.ofInt i_p0_state_bone), .int (Int32.ofInt i_p0_state_king), .int (Int32.ofInt i_p0_state_days)])), (a_p0_state_pieces, .inl (G 1, 7, .inl (zA v_p0_state_pieces))), (a_p0_state_friends, .inl (G 1, 7, .inl (zA v_p0_state_friends))), (a_p0_state_spoons, .inl (G 1, 7, .inl (zA v_p0_state_spoons))), (a_p0_state_eaten, .inl (G 1, 7, .inl (zA v_p0_state_eaten))), (a_p0_state_seen, .inl (G 1, 6, .inl (zA v_p0_state_seen))), (a_p0_images, .inl (G 4, 2, .inr (.inr (.inr (.inr (va_up (va_up (fun _ => none) 0 (some a_p0_images_0)) 1 (some a_p0_images_1))))))), (a_p0_images_0, .inr (8, [.ref a_p0_images_0_pieces, .ref a_p0_images_0_friends, .ref a_p0_images_0_spoons, .ref a_p0_images_0_eaten, .ref a_p0_images_0_seen, .int (Int32.ofInt i_p0_images_0_seenDays), .int (Int32.ofInt i_p0_images_0_bone), .int (Int32.ofInt i_p0_images_0_king), .int (Int32.ofInt i_p0_images_0_days)])), (a_p0_images_0_pieces, .inl (G 1, 7, .inl (zA v_p0_images_0_pieces))), (a_p0_images_0_friends, .inl (G 1, 7, .inl (zA v_p0_images_0_friends))), (a_p0_images_0_spoons, .inl (G 1, 7, .inl (zA v_p0_images_0_spoons))), (a_p0_images_0_eaten, .inl (G 1, 7, .inl (zA v_p0_images_0_eaten))), (a_p0_images_0_seen, .inl (G 1, 6, .inl (zA v_p0_images_0_seen))), (a_p0_images_1, .inr (8, [.ref a_p0_images_1_pieces, .ref a_p0_images_1_friends, .ref a_p0_images_1_spoons, .ref a_p0_images_1_eaten, .ref a_p0_images_1_seen, .int (Int32.ofInt i_p0_images_1_seenDays), .int (Int32.ofInt i_p0_images_1_bone), .int (Int32.ofInt i_p0_images_1_king), .int (Int32.ofInt i_p0_images_1_days)])), (a_p0_images_1_pieces, .inl (G 1, 7, .inl (zA v_p0_images_1_pieces))), (a_p0_images_1_friends, .inl (G 1, 7, .inl (zA v_p0_images_1_friends))), (a_p0_images_1_spoons, .inl (G 1, 7, .inl (zA v_p0_images_1_spoons))), (a_p0_images_1_eaten, .inl (G 1, 7, .inl (zA v_p0_images_1_eaten))), (a_p0_images_1_seen, .inl (G 1, 6, .inl (zA v_p0_images_1_seen))), (a_p0_imageHeld, .inl (G 3, 2, .inl (zA v_p0_imageHeld)))] sz)) 0 0 (va_A [(a_p0, .inr (11, [.ref a_p0_rules, .ref a_p0_state, .ref a_p0_tape, .ref a_p0_reader, .ref a_p0_kitchen, .ref a_p0_luck, .ref a_p0_plans, .ref a_p0_coups, .ref a_p0_past, .ref a_p0_fairDays, .ref a_p0_images, .ref a_p0_imageHeld, .ref a_p0_sheets, .int (Int32.ofInt i_p0_latestFault), .int (Int32.ofInt i_p0_latestTear)])), (a_p0_state, .inr (8, [.ref a_p0_state_pieces, .ref a_p0_state_friends, .ref a_p0_state_spoons, .ref a_p0_state_eaten, .ref a_p0_state_seen, .int (Int32.ofInt i_p0_state_seenDays), .int (Int32.ofInt i_p0_state_bone), .int (Int32.ofInt i_p0_state_king), .int (Int32.ofInt i_p0_state_days)])), (a_p0_state_pieces, .inl (G 1, 7, .inl (zA v_p0_state_pieces))), (a_p0_state_friends, .inl (G 1, 7, .inl (zA v_p0_state_friends))), (a_p0_state_spoons, .inl (G 1, 7, .inl (zA v_p0_state_spoons))), (a_p0_state_eaten, .inl (G 1, 7, .inl (zA v_p0_state_eaten))), (a_p0_state_seen, .inl (G 1, 6, .inl (zA v_p0_state_seen))), (a_p0_images, .inl (G 4, 2, .inr (.inr (.inr (.inr (va_up (va_up (fun _ => none) 0 (some a_p0_images_0)) 1 (some a_p0_images_1))))))), (a_p0_images_0, .inr (8, [.ref a_p0_images_0_pieces, .ref a_p0_images_0_friends, .ref a_p0_images_0_spoons, .ref a_p0_images_0_eaten, .ref a_p0_images_0_seen, .int (Int32.ofInt i_p0_images_0_seenDays), .int (Int32.ofInt i_p0_images_0_bone), .int (Int32.ofInt i_p0_images_0_king), .int (Int32.ofInt i_p0_images_0_days)])), (a_p0_images_0_pieces, .inl (G 1, 7, .inl (zA v_p0_images_0_pieces))), (a_p0_images_0_friends, .inl (G 1, 7, .inl (zA v_p0_images_0_friends))), (a_p0_images_0_spoons, .inl (G 1, 7, .inl (zA v_p0_images_0_spoons))), (a_p0_images_0_eaten, .inl (G 1, 7, .inl (zA v_p0_images_0_eaten))), (a_p0_images_0_seen, .inl (G 1, 6, .inl (zA v_p0_images_0_seen))), (a_p0_images_1, .inr (8, [.ref a_p0_images_1_pieces, .ref a_p0_images_1_friends, .ref a_p0_images_1_spoons, .ref a_p0_images_1_eaten, .ref a_p0_images_1_seen, .int (Int32.ofInt i_p0_images_1_seenDays), .int (Int32.ofInt i_p0_images_1_bone), .int (Int32.ofInt i_p0_images_1_king), .int (Int32.ofInt i_p0_images_1_days)])), (a_p0_images_1_pieces, .inl (G 1, 7, .inl (zA v_p0_images_1_pieces))), (a_p0_images_1_friends, .inl (G 1, 7, .inl (zA v_p0_images_1_friends))), (a_p0_images_1_spoons, .inl (G 1, 7, .inl (zA v_p0_images_1_spoons))), (a_p0_images_1_eaten, .inl (G 1, 7, .inl (zA v_p0_images_1_eaten))), (a_p0_images_1_seen, .inl (G 1, 6, .inl (zA v_p0_images_1_seen))), (a_p0_imageHeld, .inl (G 3, 2, .inl (zA v_p0_imageHeld)))] sz) := by
  refine Met.ofW (cc := cX11_back) (maxL := 2) (ret := (some .int)) (by decide) rfl ?_
  intro p e s m args below meth c s₁ B hml hv
  obtain ⟨rfl, hsz, hP, hK, hD0⟩ := hv
  have hx := B.exec
  have hb := B.bytes
  have hr := B.returns
  have hts := atoms_spec (ws := wsX11_back) B.pre
  have hown : s.vm.findClass RX11 = some m.cls := findClass_of_methodNamed B.named
  have hlocks := B.notSynchronized
  subst hsz
  have hD := hD0.self (sz := s.heap.size)
  generalize hAe : va_A [(a_p0, .inr (11, [.ref a_p0_rules, .ref a_p0_state, .ref a_p0_tape, .ref a_p0_reader, .ref a_p0_kitchen, .ref a_p0_luck, .ref a_p0_plans, .ref a_p0_coups, .ref a_p0_past, .ref a_p0_fairDays, .ref a_p0_images, .ref a_p0_imageHeld, .ref a_p0_sheets, .int (Int32.ofInt i_p0_latestFault), .int (Int32.ofInt i_p0_latestTear)])), (a_p0_state, .inr (8, [.ref a_p0_state_pieces, .ref a_p0_state_friends, .ref a_p0_state_spoons, .ref a_p0_state_eaten, .ref a_p0_state_seen, .int (Int32.ofInt i_p0_state_seenDays), .int (Int32.ofInt i_p0_state_bone), .int (Int32.ofInt i_p0_state_king), .int (Int32.ofInt i_p0_state_days)])), (a_p0_state_pieces, .inl (G 1, 7, .inl (zA v_p0_state_pieces))), (a_p0_state_friends, .inl (G 1, 7, .inl (zA v_p0_state_friends))), (a_p0_state_spoons, .inl (G 1, 7, .inl (zA v_p0_state_spoons))), (a_p0_state_eaten, .inl (G 1, 7, .inl (zA v_p0_state_eaten))), (a_p0_state_seen, .inl (G 1, 6, .inl (zA v_p0_state_seen))), (a_p0_images, .inl (G 4, 2, .inr (.inr (.inr (.inr (va_up (va_up (fun _ => none) 0 (some a_p0_images_0)) 1 (some a_p0_images_1))))))), (a_p0_images_0, .inr (8, [.ref a_p0_images_0_pieces, .ref a_p0_images_0_friends, .ref a_p0_images_0_spoons, .ref a_p0_images_0_eaten, .ref a_p0_images_0_seen, .int (Int32.ofInt i_p0_images_0_seenDays), .int (Int32.ofInt i_p0_images_0_bone), .int (Int32.ofInt i_p0_images_0_king), .int (Int32.ofInt i_p0_images_0_days)])), (a_p0_images_0_pieces, .inl (G 1, 7, .inl (zA v_p0_images_0_pieces))), (a_p0_images_0_friends, .inl (G 1, 7, .inl (zA v_p0_images_0_friends))), (a_p0_images_0_spoons, .inl (G 1, 7, .inl (zA v_p0_images_0_spoons))), (a_p0_images_0_eaten, .inl (G 1, 7, .inl (zA v_p0_images_0_eaten))), (a_p0_images_0_seen, .inl (G 1, 6, .inl (zA v_p0_images_0_seen))), (a_p0_images_1, .inr (8, [.ref a_p0_images_1_pieces, .ref a_p0_images_1_friends, .ref a_p0_images_1_spoons, .ref a_p0_images_1_eaten, .ref a_p0_images_1_seen, .int (Int32.ofInt i_p0_images_1_seenDays), .int (Int32.ofInt i_p0_images_1_bone), .int (Int32.ofInt i_p0_images_1_king), .int (Int32.ofInt i_p0_images_1_days)])), (a_p0_images_1_pieces, .inl (G 1, 7, .inl (zA v_p0_images_1_pieces))), (a_p0_images_1_friends, .inl (G 1, 7, .inl (zA v_p0_images_1_friends))), (a_p0_images_1_spoons, .inl (G 1, 7, .inl (zA v_p0_images_1_spoons))), (a_p0_images_1_eaten, .inl (G 1, 7, .inl (zA v_p0_images_1_eaten))), (a_p0_images_1_seen, .inl (G 1, 6, .inl (zA v_p0_images_1_seen))), (a_p0_imageHeld, .inl (G 3, 2, .inl (zA v_p0_imageHeld)))] s.heap.size = A at hD ⊢
  have hA : ∀ q : Nat, s.heap.size ≤ q → A q := fun q h => by rw [← hAe]; exact Or.inr h
  clear hAe hD0
  have hS : va_S A s.heap s.heap [] := va_S.rf
  have hl := lv_entry ([.ref a_p0, .int (Int32.ofInt x1)]) (n := 2) (Nat.le_of_ble_eq_true rfl)
  rw [lg_entry_eq]
  generalize (lg_sl ([.ref a_p0, .int (Int32.ofInt x1)]) ++ List.replicate (2 - (lg_sl ([.ref a_p0, .int (Int32.ofInt x1)])).length) Slot.unset).toArray = ls at hl ⊢
  have hl : lv_has ls 2 [(0, .ref a_p0), (1, .int (Int32.ofInt x1))] := hl
  refine W_nameQ (fun Q hQ => ?_)
  obtain ⟨H, hH⟩ : ∃ H, H = s.heap := ⟨_, rfl⟩
  replace hS : va_S A s.heap H [] := by rw [hH]; exact hS
  replace hP : va_P D vwCl [(a_p0, .inr (11, [.ref a_p0_rules, .ref a_p0_state, .ref a_p0_tape, .ref a_p0_reader, .ref a_p0_kitchen, .ref a_p0_luck, .ref a_p0_plans, .ref a_p0_coups, .ref a_p0_past, .ref a_p0_fairDays, .ref a_p0_images, .ref a_p0_imageHeld, .ref a_p0_sheets, .int (Int32.ofInt i_p0_latestFault), .int (Int32.ofInt i_p0_latestTear)])), (a_p0_state, .inr (8, [.ref a_p0_state_pieces, .ref a_p0_state_friends, .ref a_p0_state_spoons, .ref a_p0_state_eaten, .ref a_p0_state_seen, .int (Int32.ofInt i_p0_state_seenDays), .int (Int32.ofInt i_p0_state_bone), .int (Int32.ofInt i_p0_state_king), .int (Int32.ofInt i_p0_state_days)])), (a_p0_state_pieces, .inl (G 1, 7, .inl (zA v_p0_state_pieces))), (a_p0_state_friends, .inl (G 1, 7, .inl (zA v_p0_state_friends))), (a_p0_state_spoons, .inl (G 1, 7, .inl (zA v_p0_state_spoons))), (a_p0_state_eaten, .inl (G 1, 7, .inl (zA v_p0_state_eaten))), (a_p0_state_seen, .inl (G 1, 6, .inl (zA v_p0_state_seen))), (a_p0_images, .inl (G 4, 2, .inr (.inr (.inr (.inr (va_up (va_up (fun _ => none) 0 (some a_p0_images_0)) 1 (some a_p0_images_1))))))), (a_p0_images_0, .inr (8, [.ref a_p0_images_0_pieces, .ref a_p0_images_0_friends, .ref a_p0_images_0_spoons, .ref a_p0_images_0_eaten, .ref a_p0_images_0_seen, .int (Int32.ofInt i_p0_images_0_seenDays), .int (Int32.ofInt i_p0_images_0_bone), .int (Int32.ofInt i_p0_images_0_king), .int (Int32.ofInt i_p0_images_0_days)])), (a_p0_images_0_pieces, .inl (G 1, 7, .inl (zA v_p0_images_0_pieces))), (a_p0_images_0_friends, .inl (G 1, 7, .inl (zA v_p0_images_0_friends))), (a_p0_images_0_spoons, .inl (G 1, 7, .inl (zA v_p0_images_0_spoons))), (a_p0_images_0_eaten, .inl (G 1, 7, .inl (zA v_p0_images_0_eaten))), (a_p0_images_0_seen, .inl (G 1, 6, .inl (zA v_p0_images_0_seen))), (a_p0_images_1, .inr (8, [.ref a_p0_images_1_pieces, .ref a_p0_images_1_friends, .ref a_p0_images_1_spoons, .ref a_p0_images_1_eaten, .ref a_p0_images_1_seen, .int (Int32.ofInt i_p0_images_1_seenDays), .int (Int32.ofInt i_p0_images_1_bone), .int (Int32.ofInt i_p0_images_1_king), .int (Int32.ofInt i_p0_images_1_days)])), (a_p0_images_1_pieces, .inl (G 1, 7, .inl (zA v_p0_images_1_pieces))), (a_p0_images_1_friends, .inl (G 1, 7, .inl (zA v_p0_images_1_friends))), (a_p0_images_1_spoons, .inl (G 1, 7, .inl (zA v_p0_images_1_spoons))), (a_p0_images_1_eaten, .inl (G 1, 7, .inl (zA v_p0_images_1_eaten))), (a_p0_images_1_seen, .inl (G 1, 6, .inl (zA v_p0_images_1_seen))), (a_p0_imageHeld, .inl (G 3, 2, .inl (zA v_p0_imageHeld)))] H := by rw [hH]; exact hP
  rw [← hH]
  clear hH
  unfold f_X11_back at hf
  refine lv_iload_n hx hb dX11_back_0 rfl (lv_at hl 1 rfl) ?_
  have hq := bd1_s hf
  clear hf
  obtain ⟨z1, hcall, hf⟩ := hq
  refine gcI (ws' := [(a_p0, .inr (11, [.ref a_p0_rules, .ref a_p0_state, .ref a_p0_tape, .ref a_p0_reader, .ref a_p0_kitchen, .ref a_p0_luck, .ref a_p0_plans, .ref a_p0_coups, .ref a_p0_past, .ref a_p0_fairDays, .ref a_p0_images, .ref a_p0_imageHeld, .ref a_p0_sheets, .int (Int32.ofInt i_p0_latestFault), .int (Int32.ofInt i_p0_latestTear)])), (a_p0_state, .inr (8, [.ref a_p0_state_pieces, .ref a_p0_state_friends, .ref a_p0_state_spoons, .ref a_p0_state_eaten, .ref a_p0_state_seen, .int (Int32.ofInt i_p0_state_seenDays), .int (Int32.ofInt i_p0_state_bone), .int (Int32.ofInt i_p0_state_king), .int (Int32.ofInt i_p0_state_days)])), (a_p0_state_pieces, .inl (G 1, 7, .inl (zA v_p0_state_pieces))), (a_p0_state_friends, .inl (G 1, 7, .inl (zA v_p0_state_friends))), (a_p0_state_spoons, .inl (G 1, 7, .inl (zA v_p0_state_spoons))), (a_p0_state_eaten, .inl (G 1, 7, .inl (zA v_p0_state_eaten))), (a_p0_state_seen, .inl (G 1, 6, .inl (zA v_p0_state_seen))), (a_p0_images, .inl (G 4, 2, .inr (.inr (.inr (.inr (va_up (va_up (fun _ => none) 0 (some a_p0_images_0)) 1 (some a_p0_images_1))))))), (a_p0_images_0, .inr (8, [.ref a_p0_images_0_pieces, .ref a_p0_images_0_friends, .ref a_p0_images_0_spoons, .ref a_p0_images_0_eaten, .ref a_p0_images_0_seen, .int (Int32.ofInt i_p0_images_0_seenDays), .int (Int32.ofInt i_p0_images_0_bone), .int (Int32.ofInt i_p0_images_0_king), .int (Int32.ofInt i_p0_images_0_days)])), (a_p0_images_0_pieces, .inl (G 1, 7, .inl (zA v_p0_images_0_pieces))), (a_p0_images_0_friends, .inl (G 1, 7, .inl (zA v_p0_images_0_friends))), (a_p0_images_0_spoons, .inl (G 1, 7, .inl (zA v_p0_images_0_spoons))), (a_p0_images_0_eaten, .inl (G 1, 7, .inl (zA v_p0_images_0_eaten))), (a_p0_images_0_seen, .inl (G 1, 6, .inl (zA v_p0_images_0_seen))), (a_p0_images_1, .inr (8, [.ref a_p0_images_1_pieces, .ref a_p0_images_1_friends, .ref a_p0_images_1_spoons, .ref a_p0_images_1_eaten, .ref a_p0_images_1_seen, .int (Int32.ofInt i_p0_images_1_seenDays), .int (Int32.ofInt i_p0_images_1_bone), .int (Int32.ofInt i_p0_images_1_king), .int (Int32.ofInt i_p0_images_1_days)])), (a_p0_images_1_pieces, .inl (G 1, 7, .inl (zA v_p0_images_1_pieces))), (a_p0_images_1_friends, .inl (G 1, 7, .inl (zA v_p0_images_1_friends))), (a_p0_images_1_spoons, .inl (G 1, 7, .inl (zA v_p0_images_1_spoons))), (a_p0_images_1_eaten, .inl (G 1, 7, .inl (zA v_p0_images_1_eaten))), (a_p0_images_1_seen, .inl (G 1, 6, .inl (zA v_p0_images_1_seen))), (a_p0_imageHeld, .inl (G 3, 2, .inl (zA v_p0_imageHeld)))]) (va_runS (As := [.int (Int32.ofInt x1)]) (rest := []) ⟨hx, hb, hml, hown, hts⟩ (c_X11_isImage (l := l) (D := D) (G := G) (sz := H.size) (x0 := x1) (r := z1) (hf := hcall)) (va_cwS 1 hts gX11_back_X11_isImage rfl rfl rfl (by decide +kernel) ⟨Nat.le_of_ble_eq_true rfl, Nat.le_of_ble_eq_true rfl⟩) (preG_S (hP.sub [] rfl) (hD.sub [] rfl rfl) hK) rfl rfl hl.1 rfl (lv_room (Nat.le_of_ble_eq_true rfl)) dX11_back_1 ⟨Nat.le_of_ble_eq_true rfl, Nat.le_of_ble_eq_true rfl⟩) hP hD hS hA [] [0, 1, 2, 3, 4, 5, 6, 7, 8, 9, 10, 11, 12, 13, 14, 15, 16, 17, 18, 19, 20] [0, 1, 2, 3, 4, 5, 6, 7, 8, 9, 10, 11, 12, 13, 14, 15, 16, 17, 18, 19, 20] rfl rfl rfl (by decide) rfl rfl rfl (fun H locs hP hD hS => ?_)
  clear hcall
  have hr1 := ck_c hf
  replace hf := ck_r hf
  refine lv_if_ne (tgt := 9) hx hb dX11_back_4 (by decide) (fun cc => ?_) (fun cc => ?_)
  ·
    replace hf := ite_f (fun h9 => cc ((z_eq0 hr1).mpr h9)) hf
    clear cc
    refine lv_aload_n hx hb dX11_back_9 rfl (lv_at hl 0 rfl) ?_
    refine va_get (D := D) (ci := 11) (v := .ref a_p0_imageHeld) (C := RX11) (T := TX11) (N := 15) hx hb hts inX11_back_X11 hown hK hP 0 rfl rfl 11 (by decide) (hts _ mwX11_back_1) (fun _ h9 => h9) rfl dX11_back_10 ?_
    refine lv_iload_n hx hb dX11_back_13 rfl (lv_at hl 1 rfl) ?_
    have hc := ck_c hf
    replace hf := ck_r hf
    refine va_zald hx hb hK hP 20 3 rfl rfl (z_ix_in hc) dX11_back_14 (z_ci (z_ald v_p0_imageHeld hc) ?_)
    clear hc
    have hr2 := ck_c hf
    replace hf := ck_r hf
    refine lv_if_ne (tgt := 21) hx hb dX11_back_15 (by decide) (fun cc => ?_) (fun cc => ?_)
    ·
      replace hf := ite_f (fun h9 => cc ((z_eq0 hr2).mpr h9)) hf
      clear cc
      refine lv_aload_n hx hb dX11_back_21 rfl (lv_at hl 0 rfl) ?_
      refine va_get (D := D) (ci := 11) (v := .ref a_p0_state) (C := RX11) (T := TX11) (N := 15) hx hb hts inX11_back_X11 hown hK hP 0 rfl rfl 1 (by decide) (hts _ mwX11_back_2) (fun _ h9 => h9) rfl dX11_back_22 ?_
      refine lv_aload_n hx hb dX11_back_25 rfl (lv_at hl 0 rfl) ?_
      refine va_get (D := D) (ci := 11) (v := .ref a_p0_images) (C := RX11) (T := TX11) (N := 15) hx hb hts inX11_back_X11 hown hK hP 0 rfl rfl 10 (by decide) (hts _ mwX11_back_3) (fun _ h9 => h9) rfl dX11_back_26 ?_
      refine lv_iload_n hx hb dX11_back_29 rfl (lv_at hl 1 rfl) ?_
      have hc := ck_c hf
      replace hf := ck_r hf
      refine va_aldq hx hb hK hP 7 4 rfl rfl (z_ix_in hc) dX11_back_30 ?_
      clear hc
      rcases Decidable.em (x1 = (0 : Int)) with cc | cc
      ·
        replace hf := ite_t cc hf
        refine W.eq (g2 := F0 m 31 ls [.ref a_p0_images_0, .ref a_p0_state]) (by rw [cc]; rfl) ?_
        clear cc
        have hq := bd9_s hf
        clear hf
        obtain ⟨z4, z5, z6, z7, w8, w9, w10, w11, w12, hcall, hf⟩ := hq
        refine gcV (ws' := [(a_p0, .inr (11, [.ref a_p0_rules, .ref a_p0_state, .ref a_p0_tape, .ref a_p0_reader, .ref a_p0_kitchen, .ref a_p0_luck, .ref a_p0_plans, .ref a_p0_coups, .ref a_p0_past, .ref a_p0_fairDays, .ref a_p0_images, .ref a_p0_imageHeld, .ref a_p0_sheets, .int (Int32.ofInt i_p0_latestFault), .int (Int32.ofInt i_p0_latestTear)])), (a_p0_state, .inr (8, [.ref a_p0_state_pieces, .ref a_p0_state_friends, .ref a_p0_state_spoons, .ref a_p0_state_eaten, .ref a_p0_state_seen, .int (Int32.ofInt z4), .int (Int32.ofInt z5), .int (Int32.ofInt z6), .int (Int32.ofInt z7)])), (a_p0_state_pieces, .inl (G 1, 7, .inl (zA w8))), (a_p0_state_friends, .inl (G 1, 7, .inl (zA w9))), (a_p0_state_spoons, .inl (G 1, 7, .inl (zA w10))), (a_p0_state_eaten, .inl (G 1, 7, .inl (zA w11))), (a_p0_state_seen, .inl (G 1, 6, .inl (zA w12))), (a_p0_images, .inl (G 4, 2, .inr (.inr (.inr (.inr (va_up (va_up (fun _ => none) 0 (some a_p0_images_0)) 1 (some a_p0_images_1))))))), (a_p0_images_0, .inr (8, [.ref a_p0_images_0_pieces, .ref a_p0_images_0_friends, .ref a_p0_images_0_spoons, .ref a_p0_images_0_eaten, .ref a_p0_images_0_seen, .int (Int32.ofInt i_p0_images_0_seenDays), .int (Int32.ofInt i_p0_images_0_bone), .int (Int32.ofInt i_p0_images_0_king), .int (Int32.ofInt i_p0_images_0_days)])), (a_p0_images_0_pieces, .inl (G 1, 7, .inl (zA v_p0_images_0_pieces))), (a_p0_images_0_friends, .inl (G 1, 7, .inl (zA v_p0_images_0_friends))), (a_p0_images_0_spoons, .inl (G 1, 7, .inl (zA v_p0_images_0_spoons))), (a_p0_images_0_eaten, .inl (G 1, 7, .inl (zA v_p0_images_0_eaten))), (a_p0_images_0_seen, .inl (G 1, 6, .inl (zA v_p0_images_0_seen))), (a_p0_images_1, .inr (8, [.ref a_p0_images_1_pieces, .ref a_p0_images_1_friends, .ref a_p0_images_1_spoons, .ref a_p0_images_1_eaten, .ref a_p0_images_1_seen, .int (Int32.ofInt i_p0_images_1_seenDays), .int (Int32.ofInt i_p0_images_1_bone), .int (Int32.ofInt i_p0_images_1_king), .int (Int32.ofInt i_p0_images_1_days)])), (a_p0_images_1_pieces, .inl (G 1, 7, .inl (zA v_p0_images_1_pieces))), (a_p0_images_1_friends, .inl (G 1, 7, .inl (zA v_p0_images_1_friends))), (a_p0_images_1_spoons, .inl (G 1, 7, .inl (zA v_p0_images_1_spoons))), (a_p0_images_1_eaten, .inl (G 1, 7, .inl (zA v_p0_images_1_eaten))), (a_p0_images_1_seen, .inl (G 1, 6, .inl (zA v_p0_images_1_seen))), (a_p0_imageHeld, .inl (G 3, 2, .inl (zA v_p0_imageHeld)))]) (va_runV (As := [.ref a_p0_images_0]) (rest := []) ⟨hx, hb, hml, hown, hts⟩ (c_X8_copy (l := l) (D := D) (G := G) (sz := H.size) (a_p0 := a_p0_state) (a_p0_pieces := a_p0_state_pieces) (a_p0_friends := a_p0_state_friends) (a_p0_spoons := a_p0_state_spoons) (a_p0_eaten := a_p0_state_eaten) (a_p0_seen := a_p0_state_seen) (a_p1 := a_p0_images_0) (a_p1_pieces := a_p0_images_0_pieces) (a_p1_friends := a_p0_images_0_friends) (a_p1_spoons := a_p0_images_0_spoons) (a_p1_eaten := a_p0_images_0_eaten) (a_p1_seen := a_p0_images_0_seen) (i_p0_seenDays := i_p0_state_seenDays) (i_p0_bone := i_p0_state_bone) (i_p0_king := i_p0_state_king) (i_p0_days := i_p0_state_days) (v_p0_pieces := v_p0_state_pieces) (v_p0_friends := v_p0_state_friends) (v_p0_spoons := v_p0_state_spoons) (v_p0_eaten := v_p0_state_eaten) (v_p0_seen := v_p0_state_seen) (i_p1_seenDays := i_p0_images_0_seenDays) (i_p1_bone := i_p0_images_0_bone) (i_p1_king := i_p0_images_0_king) (i_p1_days := i_p0_images_0_days) (v_p1_pieces := v_p0_images_0_pieces) (v_p1_friends := v_p0_images_0_friends) (v_p1_spoons := v_p0_images_0_spoons) (v_p1_eaten := v_p0_images_0_eaten) (v_p1_seen := v_p0_images_0_seen) (o_i_p0_seenDays := z4) (o_i_p0_bone := z5) (o_i_p0_king := z6) (o_i_p0_days := z7) (o_v_p0_pieces := w8) (o_v_p0_friends := w9) (o_v_p0_spoons := w10) (o_v_p0_eaten := w11) (o_v_p0_seen := w12) (hf := hcall)) (cwV 1 hts gX11_back_X8_copy rfl rfl rfl (by decide +kernel) ⟨Nat.le_of_ble_eq_true rfl, Nat.le_of_ble_eq_true rfl⟩) (preG_V (ci := 8) (hP.sub [1, 2, 3, 4, 5, 6, 8, 9, 10, 11, 12, 13] rfl) (hD.sub [1, 2, 3, 4, 5, 6, 8, 9, 10, 11, 12, 13] rfl rfl) hK rfl rfl) rfl rfl hl.1 rfl (lv_room (Nat.le_of_ble_eq_true rfl)) dX11_back_31 ⟨Nat.le_of_ble_eq_true rfl, Nat.le_of_ble_eq_true rfl⟩) hP hD hS hA [1, 2, 3, 4, 5, 6, 8, 9, 10, 11, 12, 13] [0, 7, 14, 15, 16, 17, 18, 19, 20] [0, 9, 10, 11, 12, 13, 14, 1, 15, 16, 17, 18, 19, 20, 2, 3, 4, 5, 6, 7, 8] rfl rfl rfl (by decide) rfl rfl rfl (fun H locs hP hD hS => ?_)
        clear hcall
        refine lv_aload_n hx hb dX11_back_34 rfl (lv_at hl 0 rfl) ?_
        refine va_get (D := D) (ci := 11) (v := .ref a_p0_state) (C := RX11) (T := TX11) (N := 15) hx hb hts inX11_back_X11 hown hK hP 0 rfl rfl 1 (by decide) (hts _ mwX11_back_2) (fun _ h9 => h9) rfl dX11_back_35 ?_
        refine va_get (D := D) (ci := 8) (v := .int (Int32.ofInt z6)) (C := RX8) (T := TX8) (N := 9) hx hb hts inX11_back_X8 hown hK hP 1 rfl rfl 7 (by decide) (hts _ mwX11_back_5) (fun _ h9 => h9) rfl dX11_back_38 ?_
        obtain ⟨rfl, rfl, rfl, rfl, rfl, rfl, rfl, rfl, rfl, rfl⟩ := ou10 hf
        rw [hQ]
        exact W.iret hx hb hr (fun t ht hW => ⟨⟨_, (), rfl, rfl, by rw [ht]; exact hP, va_K.moved hW.alike hK, hD⟩, hS.F ht⟩) hS.2.2 dX11_back_41
      replace hf := ite_f cc hf
      clear cc
      rcases Decidable.em (x1 = (1 : Int)) with cc | cc
      ·
        replace hf := ite_t cc hf
        refine W.eq (g2 := F0 m 31 ls [.ref a_p0_images_1, .ref a_p0_state]) (by rw [cc]; rfl) ?_
        clear cc
        have hq := bd9_s hf
        clear hf
        obtain ⟨z13, z14, z15, z16, w17, w18, w19, w20, w21, hcall, hf⟩ := hq
        refine gcV (ws' := [(a_p0, .inr (11, [.ref a_p0_rules, .ref a_p0_state, .ref a_p0_tape, .ref a_p0_reader, .ref a_p0_kitchen, .ref a_p0_luck, .ref a_p0_plans, .ref a_p0_coups, .ref a_p0_past, .ref a_p0_fairDays, .ref a_p0_images, .ref a_p0_imageHeld, .ref a_p0_sheets, .int (Int32.ofInt i_p0_latestFault), .int (Int32.ofInt i_p0_latestTear)])), (a_p0_state, .inr (8, [.ref a_p0_state_pieces, .ref a_p0_state_friends, .ref a_p0_state_spoons, .ref a_p0_state_eaten, .ref a_p0_state_seen, .int (Int32.ofInt z13), .int (Int32.ofInt z14), .int (Int32.ofInt z15), .int (Int32.ofInt z16)])), (a_p0_state_pieces, .inl (G 1, 7, .inl (zA w17))), (a_p0_state_friends, .inl (G 1, 7, .inl (zA w18))), (a_p0_state_spoons, .inl (G 1, 7, .inl (zA w19))), (a_p0_state_eaten, .inl (G 1, 7, .inl (zA w20))), (a_p0_state_seen, .inl (G 1, 6, .inl (zA w21))), (a_p0_images, .inl (G 4, 2, .inr (.inr (.inr (.inr (va_up (va_up (fun _ => none) 0 (some a_p0_images_0)) 1 (some a_p0_images_1))))))), (a_p0_images_0, .inr (8, [.ref a_p0_images_0_pieces, .ref a_p0_images_0_friends, .ref a_p0_images_0_spoons, .ref a_p0_images_0_eaten, .ref a_p0_images_0_seen, .int (Int32.ofInt i_p0_images_0_seenDays), .int (Int32.ofInt i_p0_images_0_bone), .int (Int32.ofInt i_p0_images_0_king), .int (Int32.ofInt i_p0_images_0_days)])), (a_p0_images_0_pieces, .inl (G 1, 7, .inl (zA v_p0_images_0_pieces))), (a_p0_images_0_friends, .inl (G 1, 7, .inl (zA v_p0_images_0_friends))), (a_p0_images_0_spoons, .inl (G 1, 7, .inl (zA v_p0_images_0_spoons))), (a_p0_images_0_eaten, .inl (G 1, 7, .inl (zA v_p0_images_0_eaten))), (a_p0_images_0_seen, .inl (G 1, 6, .inl (zA v_p0_images_0_seen))), (a_p0_images_1, .inr (8, [.ref a_p0_images_1_pieces, .ref a_p0_images_1_friends, .ref a_p0_images_1_spoons, .ref a_p0_images_1_eaten, .ref a_p0_images_1_seen, .int (Int32.ofInt i_p0_images_1_seenDays), .int (Int32.ofInt i_p0_images_1_bone), .int (Int32.ofInt i_p0_images_1_king), .int (Int32.ofInt i_p0_images_1_days)])), (a_p0_images_1_pieces, .inl (G 1, 7, .inl (zA v_p0_images_1_pieces))), (a_p0_images_1_friends, .inl (G 1, 7, .inl (zA v_p0_images_1_friends))), (a_p0_images_1_spoons, .inl (G 1, 7, .inl (zA v_p0_images_1_spoons))), (a_p0_images_1_eaten, .inl (G 1, 7, .inl (zA v_p0_images_1_eaten))), (a_p0_images_1_seen, .inl (G 1, 6, .inl (zA v_p0_images_1_seen))), (a_p0_imageHeld, .inl (G 3, 2, .inl (zA v_p0_imageHeld)))]) (va_runV (As := [.ref a_p0_images_1]) (rest := []) ⟨hx, hb, hml, hown, hts⟩ (c_X8_copy (l := l) (D := D) (G := G) (sz := H.size) (a_p0 := a_p0_state) (a_p0_pieces := a_p0_state_pieces) (a_p0_friends := a_p0_state_friends) (a_p0_spoons := a_p0_state_spoons) (a_p0_eaten := a_p0_state_eaten) (a_p0_seen := a_p0_state_seen) (a_p1 := a_p0_images_1) (a_p1_pieces := a_p0_images_1_pieces) (a_p1_friends := a_p0_images_1_friends) (a_p1_spoons := a_p0_images_1_spoons) (a_p1_eaten := a_p0_images_1_eaten) (a_p1_seen := a_p0_images_1_seen) (i_p0_seenDays := i_p0_state_seenDays) (i_p0_bone := i_p0_state_bone) (i_p0_king := i_p0_state_king) (i_p0_days := i_p0_state_days) (v_p0_pieces := v_p0_state_pieces) (v_p0_friends := v_p0_state_friends) (v_p0_spoons := v_p0_state_spoons) (v_p0_eaten := v_p0_state_eaten) (v_p0_seen := v_p0_state_seen) (i_p1_seenDays := i_p0_images_1_seenDays) (i_p1_bone := i_p0_images_1_bone) (i_p1_king := i_p0_images_1_king) (i_p1_days := i_p0_images_1_days) (v_p1_pieces := v_p0_images_1_pieces) (v_p1_friends := v_p0_images_1_friends) (v_p1_spoons := v_p0_images_1_spoons) (v_p1_eaten := v_p0_images_1_eaten) (v_p1_seen := v_p0_images_1_seen) (o_i_p0_seenDays := z13) (o_i_p0_bone := z14) (o_i_p0_king := z15) (o_i_p0_days := z16) (o_v_p0_pieces := w17) (o_v_p0_friends := w18) (o_v_p0_spoons := w19) (o_v_p0_eaten := w20) (o_v_p0_seen := w21) (hf := hcall)) (cwV 1 hts gX11_back_X8_copy rfl rfl rfl (by decide +kernel) ⟨Nat.le_of_ble_eq_true rfl, Nat.le_of_ble_eq_true rfl⟩) (preG_V (ci := 8) (hP.sub [1, 2, 3, 4, 5, 6, 14, 15, 16, 17, 18, 19] rfl) (hD.sub [1, 2, 3, 4, 5, 6, 14, 15, 16, 17, 18, 19] rfl rfl) hK rfl rfl) rfl rfl hl.1 rfl (lv_room (Nat.le_of_ble_eq_true rfl)) dX11_back_31 ⟨Nat.le_of_ble_eq_true rfl, Nat.le_of_ble_eq_true rfl⟩) hP hD hS hA [1, 2, 3, 4, 5, 6, 14, 15, 16, 17, 18, 19] [0, 7, 8, 9, 10, 11, 12, 13, 20] [0, 9, 10, 11, 12, 13, 14, 1, 2, 3, 4, 5, 6, 7, 15, 16, 17, 18, 19, 20, 8] rfl rfl rfl (by decide) rfl rfl rfl (fun H locs hP hD hS => ?_)
        clear hcall
        refine lv_aload_n hx hb dX11_back_34 rfl (lv_at hl 0 rfl) ?_
        refine va_get (D := D) (ci := 11) (v := .ref a_p0_state) (C := RX11) (T := TX11) (N := 15) hx hb hts inX11_back_X11 hown hK hP 0 rfl rfl 1 (by decide) (hts _ mwX11_back_2) (fun _ h9 => h9) rfl dX11_back_35 ?_
        refine va_get (D := D) (ci := 8) (v := .int (Int32.ofInt z15)) (C := RX8) (T := TX8) (N := 9) hx hb hts inX11_back_X8 hown hK hP 1 rfl rfl 7 (by decide) (hts _ mwX11_back_5) (fun _ h9 => h9) rfl dX11_back_38 ?_
        obtain ⟨rfl, rfl, rfl, rfl, rfl, rfl, rfl, rfl, rfl, rfl⟩ := ou10 hf
        rw [hQ]
        exact W.iret hx hb hr (fun t ht hW => ⟨⟨_, (), rfl, rfl, by rw [ht]; exact hP, va_K.moved hW.alike hK, hD⟩, hS.F ht⟩) hS.2.2 dX11_back_41
      replace hf := ite_f cc hf
      clear cc
      cases hf
    ·
      replace hf := ite_t ((z_eq0 hr2).mp cc) hf
      clear cc
      refine lv_bipush (v := Int32.ofInt (-2 : Int)) hx hb dX11_back_18 (by decide) ?_
      obtain ⟨rfl, rfl, rfl, rfl, rfl, rfl, rfl, rfl, rfl, rfl⟩ := ou10 hf
      rw [hQ]
      exact W.iret hx hb hr (fun t ht hW => ⟨⟨_, (), rfl, rfl, by rw [ht]; exact hP, va_K.moved hW.alike hK, hD⟩, hS.F ht⟩) hS.2.2 dX11_back_20
  ·
    replace hf := ite_t ((z_eq0 hr1).mp cc) hf
    clear cc
    refine lv_iconst (v := Int32.ofInt (-1 : Int)) hx hb dX11_back_7 (by decide) ?_
    obtain ⟨rfl, rfl, rfl, rfl, rfl, rfl, rfl, rfl, rfl, rfl⟩ := ou10 hf
    rw [hQ]
    exact W.iret hx hb hr (fun t ht hW => ⟨⟨_, (), rfl, rfl, by rw [ht]; exact hP, va_K.moved hW.alike hK, hD⟩, hS.F ht⟩) hS.2.2 dX11_back_8

noncomputable def f_X11_isSheet (x0 : Int) : Option (Int) := (ck (z_r32 x0) (if x0 < (0 : Int) then (some (0 : Int)) else (if (4 : Int) ≤ x0 then (some (0 : Int)) else (some (1 : Int)))))
abbrev rm_X11_isSheet : Room := { frames := 0, cells := 0, slots := 0, locals := 0 }
set_option maxHeartbeats 8000000 in
set_option maxRecDepth 100000 in
theorem c_X11_isSheet (l : Launch) (D : va_G) (G : Nat → ClassId) (sz : Nat) (x0 : Int) (r : Int) (hf : f_X11_isSheet x0 = some r) : Met l yX11_isSheet wsX11_isSheet rm_X11_isSheet (pcG D G [.int (Int32.ofInt x0)] sz []) (qcI D G (Int32.ofInt r) [] (va_A [] sz)) 0 0 (va_A [] sz) := by
  refine Met.ofW (cc := cX11_isSheet) (maxL := 1) (ret := (some .boolean)) (by decide) rfl ?_
  intro p e s m args below meth c s₁ B hml hv
  obtain ⟨rfl, hsz, hP, hK, hD0⟩ := hv
  have hx := B.exec
  have hb := B.bytes
  have hr := B.returns
  have hts := atoms_spec (ws := wsX11_isSheet) B.pre
  have hown : s.vm.findClass RX11 = some m.cls := findClass_of_methodNamed B.named
  have hlocks := B.notSynchronized
  subst hsz
  have hD := hD0.self (sz := s.heap.size)
  generalize hAe : va_A [] s.heap.size = A at hD ⊢
  have hA : ∀ q : Nat, s.heap.size ≤ q → A q := fun q h => by rw [← hAe]; exact Or.inr h
  clear hAe hD0
  have hS : va_S A s.heap s.heap [] := va_S.rf
  have hl := lv_entry ([.int (Int32.ofInt x0)]) (n := 1) (Nat.le_of_ble_eq_true rfl)
  rw [lg_entry_eq]
  generalize (lg_sl ([.int (Int32.ofInt x0)]) ++ List.replicate (1 - (lg_sl ([.int (Int32.ofInt x0)])).length) Slot.unset).toArray = ls at hl ⊢
  have hl : lv_has ls 1 [(0, .int (Int32.ofInt x0))] := hl
  refine W_nameQ (fun Q hQ => ?_)
  obtain ⟨H, hH⟩ : ∃ H, H = s.heap := ⟨_, rfl⟩
  replace hS : va_S A s.heap H [] := by rw [hH]; exact hS
  replace hP : va_P D vwCl [] H := by rw [hH]; exact hP
  rw [← hH]
  clear hH
  unfold f_X11_isSheet at hf
  refine lv_iload_n hx hb dX11_isSheet_0 rfl (lv_at hl 0 rfl) ?_
  have hr0 := ck_c hf
  replace hf := ck_r hf
  refine lv_if_lt (tgt := 13) hx hb dX11_isSheet_1 (by decide) (fun cc => ?_) (fun cc => ?_)
  ·
    replace hf := ite_t ((z_lt0 hr0).mp cc) hf
    clear cc
    refine lv_iconst (v := Int32.ofInt (0 : Int)) hx hb dX11_isSheet_13 (by decide) ?_
    obtain rfl := ou1 hf
    rw [hQ]
    exact W.zret hx hb hr rfl (fun t ht hW => ⟨⟨_, (), rfl, rfl, by rw [ht]; exact hP, va_K.moved hW.alike hK, hD⟩, hS.F ht⟩) hS.2.2 dX11_isSheet_14
  ·
    replace hf := ite_f (fun h9 => cc ((z_lt0 hr0).mpr h9)) hf
    clear cc
    refine lv_iload_n hx hb dX11_isSheet_4 rfl (lv_at hl 0 rfl) ?_
    refine lv_iconst (v := Int32.ofInt (4 : Int)) hx hb dX11_isSheet_5 (by decide) ?_
    refine lv_icmp_ge (tgt := 13) hx hb dX11_isSheet_6 (by decide) (fun cc => ?_) (fun cc => ?_)
    ·
      replace hf := ite_t ((z_le (by decide) hr0).mp cc) hf
      clear cc
      refine lv_iconst (v := Int32.ofInt (0 : Int)) hx hb dX11_isSheet_13 (by decide) ?_
      obtain rfl := ou1 hf
      rw [hQ]
      exact W.zret hx hb hr rfl (fun t ht hW => ⟨⟨_, (), rfl, rfl, by rw [ht]; exact hP, va_K.moved hW.alike hK, hD⟩, hS.F ht⟩) hS.2.2 dX11_isSheet_14
    ·
      replace hf := ite_f (fun h9 => cc ((z_le (by decide) hr0).mpr h9)) hf
      clear cc
      refine lv_iconst (v := Int32.ofInt (1 : Int)) hx hb dX11_isSheet_9 (by decide) ?_
      refine lv_goto (tgt := 14) hx hb dX11_isSheet_10 (by decide) ?_
      obtain rfl := ou1 hf
      rw [hQ]
      exact W.zret hx hb hr rfl (fun t ht hW => ⟨⟨_, (), rfl, rfl, by rw [ht]; exact hP, va_K.moved hW.alike hK, hD⟩, hS.F ht⟩) hS.2.2 dX11_isSheet_14

noncomputable def f_X11_isLane (x0 : Int) : Option (Int) := (ck (z_r32 x0) (if x0 < (0 : Int) then (some (0 : Int)) else (if (3 : Int) ≤ x0 then (some (0 : Int)) else (some (1 : Int)))))
abbrev rm_X11_isLane : Room := { frames := 0, cells := 0, slots := 0, locals := 0 }
set_option maxHeartbeats 8000000 in
set_option maxRecDepth 100000 in
theorem c_X11_isLane (l : Launch) (D : va_G) (G : Nat → ClassId) (sz : Nat) (x0 : Int) (r : Int) (hf : f_X11_isLane x0 = some r) : Met l yX11_isLane wsX11_isLane rm_X11_isLane (pcG D G [.int (Int32.ofInt x0)] sz []) (qcI D G (Int32.ofInt r) [] (va_A [] sz)) 0 0 (va_A [] sz) := by
  refine Met.ofW (cc := cX11_isLane) (maxL := 1) (ret := (some .boolean)) (by decide) rfl ?_
  intro p e s m args below meth c s₁ B hml hv
  obtain ⟨rfl, hsz, hP, hK, hD0⟩ := hv
  have hx := B.exec
  have hb := B.bytes
  have hr := B.returns
  have hts := atoms_spec (ws := wsX11_isLane) B.pre
  have hown : s.vm.findClass RX11 = some m.cls := findClass_of_methodNamed B.named
  have hlocks := B.notSynchronized
  subst hsz
  have hD := hD0.self (sz := s.heap.size)
  generalize hAe : va_A [] s.heap.size = A at hD ⊢
  have hA : ∀ q : Nat, s.heap.size ≤ q → A q := fun q h => by rw [← hAe]; exact Or.inr h
  clear hAe hD0
  have hS : va_S A s.heap s.heap [] := va_S.rf
  have hl := lv_entry ([.int (Int32.ofInt x0)]) (n := 1) (Nat.le_of_ble_eq_true rfl)
  rw [lg_entry_eq]
  generalize (lg_sl ([.int (Int32.ofInt x0)]) ++ List.replicate (1 - (lg_sl ([.int (Int32.ofInt x0)])).length) Slot.unset).toArray = ls at hl ⊢
  have hl : lv_has ls 1 [(0, .int (Int32.ofInt x0))] := hl
  refine W_nameQ (fun Q hQ => ?_)
  obtain ⟨H, hH⟩ : ∃ H, H = s.heap := ⟨_, rfl⟩
  replace hS : va_S A s.heap H [] := by rw [hH]; exact hS
  replace hP : va_P D vwCl [] H := by rw [hH]; exact hP
  rw [← hH]
  clear hH
  unfold f_X11_isLane at hf
  refine lv_iload_n hx hb dX11_isLane_0 rfl (lv_at hl 0 rfl) ?_
  have hr0 := ck_c hf
  replace hf := ck_r hf
  refine lv_if_lt (tgt := 13) hx hb dX11_isLane_1 (by decide) (fun cc => ?_) (fun cc => ?_)
  ·
    replace hf := ite_t ((z_lt0 hr0).mp cc) hf
    clear cc
    refine lv_iconst (v := Int32.ofInt (0 : Int)) hx hb dX11_isLane_13 (by decide) ?_
    obtain rfl := ou1 hf
    rw [hQ]
    exact W.zret hx hb hr rfl (fun t ht hW => ⟨⟨_, (), rfl, rfl, by rw [ht]; exact hP, va_K.moved hW.alike hK, hD⟩, hS.F ht⟩) hS.2.2 dX11_isLane_14
  ·
    replace hf := ite_f (fun h9 => cc ((z_lt0 hr0).mpr h9)) hf
    clear cc
    refine lv_iload_n hx hb dX11_isLane_4 rfl (lv_at hl 0 rfl) ?_
    refine lv_iconst (v := Int32.ofInt (3 : Int)) hx hb dX11_isLane_5 (by decide) ?_
    refine lv_icmp_ge (tgt := 13) hx hb dX11_isLane_6 (by decide) (fun cc => ?_) (fun cc => ?_)
    ·
      replace hf := ite_t ((z_le (by decide) hr0).mp cc) hf
      clear cc
      refine lv_iconst (v := Int32.ofInt (0 : Int)) hx hb dX11_isLane_13 (by decide) ?_
      obtain rfl := ou1 hf
      rw [hQ]
      exact W.zret hx hb hr rfl (fun t ht hW => ⟨⟨_, (), rfl, rfl, by rw [ht]; exact hP, va_K.moved hW.alike hK, hD⟩, hS.F ht⟩) hS.2.2 dX11_isLane_14
    ·
      replace hf := ite_f (fun h9 => cc ((z_le (by decide) hr0).mpr h9)) hf
      clear cc
      refine lv_iconst (v := Int32.ofInt (1 : Int)) hx hb dX11_isLane_9 (by decide) ?_
      refine lv_goto (tgt := 14) hx hb dX11_isLane_10 (by decide) ?_
      obtain rfl := ou1 hf
      rw [hQ]
      exact W.zret hx hb hr rfl (fun t ht hW => ⟨⟨_, (), rfl, rfl, by rw [ht]; exact hP, va_K.moved hW.alike hK, hD⟩, hS.F ht⟩) hS.2.2 dX11_isLane_14

noncomputable def f_X11_sheet (i_p0_sheets_0_lane : Int) (i_p0_sheets_0_size : Int) (v_p0_sheets_0_cells : (Int → Int)) (i_p0_sheets_1_lane : Int) (i_p0_sheets_1_size : Int) (v_p0_sheets_1_cells : (Int → Int)) (i_p0_sheets_2_lane : Int) (i_p0_sheets_2_size : Int) (v_p0_sheets_2_cells : (Int → Int)) (i_p0_sheets_3_lane : Int) (i_p0_sheets_3_size : Int) (v_p0_sheets_3_cells : (Int → Int)) (x1 : Int) (x2 : Int) (x3 : Int) : Option (Int × Int × Int × (Int → Int) × Int × Int × (Int → Int) × Int × Int × (Int → Int) × Int × Int × (Int → Int)) := (bd1 (f_X11_isSheet x1) (fun (z1 : Int) => (ck (z_r32 z1) (if z1 = (0 : Int) then (some ((-1 : Int), i_p0_sheets_0_lane, i_p0_sheets_0_size, v_p0_sheets_0_cells, i_p0_sheets_1_lane, i_p0_sheets_1_size, v_p0_sheets_1_cells, i_p0_sheets_2_lane, i_p0_sheets_2_size, v_p0_sheets_2_cells, i_p0_sheets_3_lane, i_p0_sheets_3_size, v_p0_sheets_3_cells)) else (bd1 (f_X11_isLane x2) (fun (z3 : Int) => (ck (z_r32 z3) (if z3 = (0 : Int) then (some ((-1 : Int), i_p0_sheets_0_lane, i_p0_sheets_0_size, v_p0_sheets_0_cells, i_p0_sheets_1_lane, i_p0_sheets_1_size, v_p0_sheets_1_cells, i_p0_sheets_2_lane, i_p0_sheets_2_size, v_p0_sheets_2_cells, i_p0_sheets_3_lane, i_p0_sheets_3_size, v_p0_sheets_3_cells)) else (ck (z_r32 x3) (if x3 ≤ (40 : Int) then (if (0 : Int) ≤ x3 then (ck (z_ix x1 4) (if x1 = (0 : Int) then (bd3 (f_X7_renew v_p0_sheets_0_cells x2 x3) (fun (z6 : Int) (z7 : Int) (w8 : (Int → Int)) => (some ((1 : Int), z6, z7, w8, i_p0_sheets_1_lane, i_p0_sheets_1_size, v_p0_sheets_1_cells, i_p0_sheets_2_lane, i_p0_sheets_2_size, v_p0_sheets_2_cells, i_p0_sheets_3_lane, i_p0_sheets_3_size, v_p0_sheets_3_cells)))) else (if x1 = (1 : Int) then (bd3 (f_X7_renew v_p0_sheets_1_cells x2 x3) (fun (z9 : Int) (z10 : Int) (w11 : (Int → Int)) => (some ((1 : Int), i_p0_sheets_0_lane, i_p0_sheets_0_size, v_p0_sheets_0_cells, z9, z10, w11, i_p0_sheets_2_lane, i_p0_sheets_2_size, v_p0_sheets_2_cells, i_p0_sheets_3_lane, i_p0_sheets_3_size, v_p0_sheets_3_cells)))) else (if x1 = (2 : Int) then (bd3 (f_X7_renew v_p0_sheets_2_cells x2 x3) (fun (z12 : Int) (z13 : Int) (w14 : (Int → Int)) => (some ((1 : Int), i_p0_sheets_0_lane, i_p0_sheets_0_size, v_p0_sheets_0_cells, i_p0_sheets_1_lane, i_p0_sheets_1_size, v_p0_sheets_1_cells, z12, z13, w14, i_p0_sheets_3_lane, i_p0_sheets_3_size, v_p0_sheets_3_cells)))) else (if x1 = (3 : Int) then (bd3 (f_X7_renew v_p0_sheets_3_cells x2 x3) (fun (z15 : Int) (z16 : Int) (w17 : (Int → Int)) => (some ((1 : Int), i_p0_sheets_0_lane, i_p0_sheets_0_size, v_p0_sheets_0_cells, i_p0_sheets_1_lane, i_p0_sheets_1_size, v_p0_sheets_1_cells, i_p0_sheets_2_lane, i_p0_sheets_2_size, v_p0_sheets_2_cells, z15, z16, w17)))) else none))))) else (some ((-14 : Int), i_p0_sheets_0_lane, i_p0_sheets_0_size, v_p0_sheets_0_cells, i_p0_sheets_1_lane, i_p0_sheets_1_size, v_p0_sheets_1_cells, i_p0_sheets_2_lane, i_p0_sheets_2_size, v_p0_sheets_2_cells, i_p0_sheets_3_lane, i_p0_sheets_3_size, v_p0_sheets_3_cells))) else (some ((-1 : Int), i_p0_sheets_0_lane, i_p0_sheets_0_size, v_p0_sheets_0_cells, i_p0_sheets_1_lane, i_p0_sheets_1_size, v_p0_sheets_1_cells, i_p0_sheets_2_lane, i_p0_sheets_2_size, v_p0_sheets_2_cells, i_p0_sheets_3_lane, i_p0_sheets_3_size, v_p0_sheets_3_cells))))))))))))
abbrev rm_X11_sheet : Room := { frames := 2, cells := 0, slots := 0, locals := 45 }
theorem inX11_sheet_X11 : ∀ w ∈ wsX110, w ∈ wsX11_sheet := by decide +kernel
theorem mwX11_sheet_1 : Cond.fieldLink RX11 95 "LadleKings" "sheets" "[LLadleKings$Sheet;" ∈ wsX11_sheet := by decide +kernel
set_option maxHeartbeats 8000000 in
set_option maxRecDepth 100000 in
theorem c_X11_sheet (l : Launch) (D : va_G) (G : Nat → ClassId) (sz : Nat) (a_p0 : Nat) (a_p0_rules : Nat) (a_p0_state : Nat) (a_p0_tape : Nat) (a_p0_reader : Nat) (a_p0_kitchen : Nat) (a_p0_luck : Nat) (a_p0_plans : Nat) (a_p0_coups : Nat) (a_p0_past : Nat) (a_p0_fairDays : Nat) (a_p0_images : Nat) (a_p0_imageHeld : Nat) (a_p0_sheets : Nat) (a_p0_sheets_0 : Nat) (a_p0_sheets_1 : Nat) (a_p0_sheets_2 : Nat) (a_p0_sheets_3 : Nat) (a_p0_sheets_0_cells : Nat) (a_p0_sheets_1_cells : Nat) (a_p0_sheets_2_cells : Nat) (a_p0_sheets_3_cells : Nat) (i_p0_latestFault : Int) (i_p0_latestTear : Int) (i_p0_sheets_0_lane : Int) (i_p0_sheets_0_size : Int) (v_p0_sheets_0_cells : (Int → Int)) (i_p0_sheets_1_lane : Int) (i_p0_sheets_1_size : Int) (v_p0_sheets_1_cells : (Int → Int)) (i_p0_sheets_2_lane : Int) (i_p0_sheets_2_size : Int) (v_p0_sheets_2_cells : (Int → Int)) (i_p0_sheets_3_lane : Int) (i_p0_sheets_3_size : Int) (v_p0_sheets_3_cells : (Int → Int)) (x1 : Int) (x2 : Int) (x3 : Int) (r : Int) (o_i_p0_sheets_0_lane : Int) (o_i_p0_sheets_0_size : Int) (o_v_p0_sheets_0_cells : (Int → Int)) (o_i_p0_sheets_1_lane : Int) (o_i_p0_sheets_1_size : Int) (o_v_p0_sheets_1_cells : (Int → Int)) (o_i_p0_sheets_2_lane : Int) (o_i_p0_sheets_2_size : Int) (o_v_p0_sheets_2_cells : (Int → Int)) (o_i_p0_sheets_3_lane : Int) (o_i_p0_sheets_3_size : Int) (o_v_p0_sheets_3_cells : (Int → Int)) (hf : f_X11_sheet i_p0_sheets_0_lane i_p0_sheets_0_size v_p0_sheets_0_cells i_p0_sheets_1_lane i_p0_sheets_1_size v_p0_sheets_1_cells i_p0_sheets_2_lane i_p0_sheets_2_size v_p0_sheets_2_cells i_p0_sheets_3_lane i_p0_sheets_3_size v_p0_sheets_3_cells x1 x2 x3 = some (r, o_i_p0_sheets_0_lane, o_i_p0_sheets_0_size, o_v_p0_sheets_0_cells, o_i_p0_sheets_1_lane, o_i_p0_sheets_1_size, o_v_p0_sheets_1_cells, o_i_p0_sheets_2_lane, o_i_p0_sheets_2_size, o_v_p0_sheets_2_cells, o_i_p0_sheets_3_lane, o_i_p0_sheets_3_size, o_v_p0_sheets_3_cells)) : Met l yX11_sheet wsX11_sheet rm_X11_sheet (pcG D G [.ref a_p0, .int (Int32.ofInt x1), .int (Int32.ofInt x2), .int (Int32.ofInt x3)] sz [(a_p0, .inr (11, [.ref a_p0_rules, .ref a_p0_state, .ref a_p0_tape, .ref a_p0_reader, .ref a_p0_kitchen, .ref a_p0_luck, .ref a_p0_plans, .ref a_p0_coups, .ref a_p0_past, .ref a_p0_fairDays, .ref a_p0_images, .ref a_p0_imageHeld, .ref a_p0_sheets, .int (Int32.ofInt i_p0_latestFault), .int (Int32.ofInt i_p0_latestTear)])), (a_p0_sheets, .inl (G 5, 4, .inr (.inr (.inr (.inr (va_up (va_up (va_up (va_up (fun _ => none) 0 (some a_p0_sheets_0)) 1 (some a_p0_sheets_1)) 2 (some a_p0_sheets_2)) 3 (some a_p0_sheets_3))))))), (a_p0_sheets_0, .inr (7, [.int (Int32.ofInt i_p0_sheets_0_lane), .int (Int32.ofInt i_p0_sheets_0_size), .ref a_p0_sheets_0_cells])), (a_p0_sheets_0_cells, .inl (G 1, 40, .inl (zA v_p0_sheets_0_cells))), (a_p0_sheets_1, .inr (7, [.int (Int32.ofInt i_p0_sheets_1_lane), .int (Int32.ofInt i_p0_sheets_1_size), .ref a_p0_sheets_1_cells])), (a_p0_sheets_1_cells, .inl (G 1, 40, .inl (zA v_p0_sheets_1_cells))), (a_p0_sheets_2, .inr (7, [.int (Int32.ofInt i_p0_sheets_2_lane), .int (Int32.ofInt i_p0_sheets_2_size), .ref a_p0_sheets_2_cells])), (a_p0_sheets_2_cells, .inl (G 1, 40, .inl (zA v_p0_sheets_2_cells))), (a_p0_sheets_3, .inr (7, [.int (Int32.ofInt i_p0_sheets_3_lane), .int (Int32.ofInt i_p0_sheets_3_size), .ref a_p0_sheets_3_cells])), (a_p0_sheets_3_cells, .inl (G 1, 40, .inl (zA v_p0_sheets_3_cells)))]) (qcI D G (Int32.ofInt r) [(a_p0, .inr (11, [.ref a_p0_rules, .ref a_p0_state, .ref a_p0_tape, .ref a_p0_reader, .ref a_p0_kitchen, .ref a_p0_luck, .ref a_p0_plans, .ref a_p0_coups, .ref a_p0_past, .ref a_p0_fairDays, .ref a_p0_images, .ref a_p0_imageHeld, .ref a_p0_sheets, .int (Int32.ofInt i_p0_latestFault), .int (Int32.ofInt i_p0_latestTear)])), (a_p0_sheets, .inl (G 5, 4, .inr (.inr (.inr (.inr (va_up (va_up (va_up (va_up (fun _ => none) 0 (some a_p0_sheets_0)) 1 (some a_p0_sheets_1)) 2 (some a_p0_sheets_2)) 3 (some a_p0_sheets_3))))))), (a_p0_sheets_0, .inr (7, [.int (Int32.ofInt o_i_p0_sheets_0_lane), .int (Int32.ofInt o_i_p0_sheets_0_size), .ref a_p0_sheets_0_cells])), (a_p0_sheets_0_cells, .inl (G 1, 40, .inl (zA o_v_p0_sheets_0_cells))), (a_p0_sheets_1, .inr (7, [.int (Int32.ofInt o_i_p0_sheets_1_lane), .int (Int32.ofInt o_i_p0_sheets_1_size), .ref a_p0_sheets_1_cells])), (a_p0_sheets_1_cells, .inl (G 1, 40, .inl (zA o_v_p0_sheets_1_cells))), (a_p0_sheets_2, .inr (7, [.int (Int32.ofInt o_i_p0_sheets_2_lane), .int (Int32.ofInt o_i_p0_sheets_2_size), .ref a_p0_sheets_2_cells])), (a_p0_sheets_2_cells, .inl (G 1, 40, .inl (zA o_v_p0_sheets_2_cells))), (a_p0_sheets_3, .inr (7, [.int (Int32.ofInt o_i_p0_sheets_3_lane), .int (Int32.ofInt o_i_p0_sheets_3_size), .ref a_p0_sheets_3_cells])), (a_p0_sheets_3_cells, .inl (G 1, 40, .inl (zA o_v_p0_sheets_3_cells)))] (va_A [(a_p0, .inr (11, [.ref a_p0_rules, .ref a_p0_state, .ref a_p0_tape, .ref a_p0_reader, .ref a_p0_kitchen, .ref a_p0_luck, .ref a_p0_plans, .ref a_p0_coups, .ref a_p0_past, .ref a_p0_fairDays, .ref a_p0_images, .ref a_p0_imageHeld, .ref a_p0_sheets, .int (Int32.ofInt i_p0_latestFault), .int (Int32.ofInt i_p0_latestTear)])), (a_p0_sheets, .inl (G 5, 4, .inr (.inr (.inr (.inr (va_up (va_up (va_up (va_up (fun _ => none) 0 (some a_p0_sheets_0)) 1 (some a_p0_sheets_1)) 2 (some a_p0_sheets_2)) 3 (some a_p0_sheets_3))))))), (a_p0_sheets_0, .inr (7, [.int (Int32.ofInt i_p0_sheets_0_lane), .int (Int32.ofInt i_p0_sheets_0_size), .ref a_p0_sheets_0_cells])), (a_p0_sheets_0_cells, .inl (G 1, 40, .inl (zA v_p0_sheets_0_cells))), (a_p0_sheets_1, .inr (7, [.int (Int32.ofInt i_p0_sheets_1_lane), .int (Int32.ofInt i_p0_sheets_1_size), .ref a_p0_sheets_1_cells])), (a_p0_sheets_1_cells, .inl (G 1, 40, .inl (zA v_p0_sheets_1_cells))), (a_p0_sheets_2, .inr (7, [.int (Int32.ofInt i_p0_sheets_2_lane), .int (Int32.ofInt i_p0_sheets_2_size), .ref a_p0_sheets_2_cells])), (a_p0_sheets_2_cells, .inl (G 1, 40, .inl (zA v_p0_sheets_2_cells))), (a_p0_sheets_3, .inr (7, [.int (Int32.ofInt i_p0_sheets_3_lane), .int (Int32.ofInt i_p0_sheets_3_size), .ref a_p0_sheets_3_cells])), (a_p0_sheets_3_cells, .inl (G 1, 40, .inl (zA v_p0_sheets_3_cells)))] sz)) 0 0 (va_A [(a_p0, .inr (11, [.ref a_p0_rules, .ref a_p0_state, .ref a_p0_tape, .ref a_p0_reader, .ref a_p0_kitchen, .ref a_p0_luck, .ref a_p0_plans, .ref a_p0_coups, .ref a_p0_past, .ref a_p0_fairDays, .ref a_p0_images, .ref a_p0_imageHeld, .ref a_p0_sheets, .int (Int32.ofInt i_p0_latestFault), .int (Int32.ofInt i_p0_latestTear)])), (a_p0_sheets, .inl (G 5, 4, .inr (.inr (.inr (.inr (va_up (va_up (va_up (va_up (fun _ => none) 0 (some a_p0_sheets_0)) 1 (some a_p0_sheets_1)) 2 (some a_p0_sheets_2)) 3 (some a_p0_sheets_3))))))), (a_p0_sheets_0, .inr (7, [.int (Int32.ofInt i_p0_sheets_0_lane), .int (Int32.ofInt i_p0_sheets_0_size), .ref a_p0_sheets_0_cells])), (a_p0_sheets_0_cells, .inl (G 1, 40, .inl (zA v_p0_sheets_0_cells))), (a_p0_sheets_1, .inr (7, [.int (Int32.ofInt i_p0_sheets_1_lane), .int (Int32.ofInt i_p0_sheets_1_size), .ref a_p0_sheets_1_cells])), (a_p0_sheets_1_cells, .inl (G 1, 40, .inl (zA v_p0_sheets_1_cells))), (a_p0_sheets_2, .inr (7, [.int (Int32.ofInt i_p0_sheets_2_lane), .int (Int32.ofInt i_p0_sheets_2_size), .ref a_p0_sheets_2_cells])), (a_p0_sheets_2_cells, .inl (G 1, 40, .inl (zA v_p0_sheets_2_cells))), (a_p0_sheets_3, .inr (7, [.int (Int32.ofInt i_p0_sheets_3_lane), .int (Int32.ofInt i_p0_sheets_3_size), .ref a_p0_sheets_3_cells])), (a_p0_sheets_3_cells, .inl (G 1, 40, .inl (zA v_p0_sheets_3_cells)))] sz) := by
  refine Met.ofW (cc := cX11_sheet) (maxL := 4) (ret := (some .int)) (by decide) rfl ?_
  intro p e s m args below meth c s₁ B hml hv
  obtain ⟨rfl, hsz, hP, hK, hD0⟩ := hv
  have hx := B.exec
  have hb := B.bytes
  have hr := B.returns
  have hts := atoms_spec (ws := wsX11_sheet) B.pre
  have hown : s.vm.findClass RX11 = some m.cls := findClass_of_methodNamed B.named
  have hlocks := B.notSynchronized
  subst hsz
  have hD := hD0.self (sz := s.heap.size)
  generalize hAe : va_A [(a_p0, .inr (11, [.ref a_p0_rules, .ref a_p0_state, .ref a_p0_tape, .ref a_p0_reader, .ref a_p0_kitchen, .ref a_p0_luck, .ref a_p0_plans, .ref a_p0_coups, .ref a_p0_past, .ref a_p0_fairDays, .ref a_p0_images, .ref a_p0_imageHeld, .ref a_p0_sheets, .int (Int32.ofInt i_p0_latestFault), .int (Int32.ofInt i_p0_latestTear)])), (a_p0_sheets, .inl (G 5, 4, .inr (.inr (.inr (.inr (va_up (va_up (va_up (va_up (fun _ => none) 0 (some a_p0_sheets_0)) 1 (some a_p0_sheets_1)) 2 (some a_p0_sheets_2)) 3 (some a_p0_sheets_3))))))), (a_p0_sheets_0, .inr (7, [.int (Int32.ofInt i_p0_sheets_0_lane), .int (Int32.ofInt i_p0_sheets_0_size), .ref a_p0_sheets_0_cells])), (a_p0_sheets_0_cells, .inl (G 1, 40, .inl (zA v_p0_sheets_0_cells))), (a_p0_sheets_1, .inr (7, [.int (Int32.ofInt i_p0_sheets_1_lane), .int (Int32.ofInt i_p0_sheets_1_size), .ref a_p0_sheets_1_cells])), (a_p0_sheets_1_cells, .inl (G 1, 40, .inl (zA v_p0_sheets_1_cells))), (a_p0_sheets_2, .inr (7, [.int (Int32.ofInt i_p0_sheets_2_lane), .int (Int32.ofInt i_p0_sheets_2_size), .ref a_p0_sheets_2_cells])), (a_p0_sheets_2_cells, .inl (G 1, 40, .inl (zA v_p0_sheets_2_cells))), (a_p0_sheets_3, .inr (7, [.int (Int32.ofInt i_p0_sheets_3_lane), .int (Int32.ofInt i_p0_sheets_3_size), .ref a_p0_sheets_3_cells])), (a_p0_sheets_3_cells, .inl (G 1, 40, .inl (zA v_p0_sheets_3_cells)))] s.heap.size = A at hD ⊢
  have hA : ∀ q : Nat, s.heap.size ≤ q → A q := fun q h => by rw [← hAe]; exact Or.inr h
  clear hAe hD0
  have hS : va_S A s.heap s.heap [] := va_S.rf
  have hl := lv_entry ([.ref a_p0, .int (Int32.ofInt x1), .int (Int32.ofInt x2), .int (Int32.ofInt x3)]) (n := 4) (Nat.le_of_ble_eq_true rfl)
  rw [lg_entry_eq]
  generalize (lg_sl ([.ref a_p0, .int (Int32.ofInt x1), .int (Int32.ofInt x2), .int (Int32.ofInt x3)]) ++ List.replicate (4 - (lg_sl ([.ref a_p0, .int (Int32.ofInt x1), .int (Int32.ofInt x2), .int (Int32.ofInt x3)])).length) Slot.unset).toArray = ls at hl ⊢
  have hl : lv_has ls 4 [(0, .ref a_p0), (1, .int (Int32.ofInt x1)), (2, .int (Int32.ofInt x2)), (3, .int (Int32.ofInt x3))] := hl
  refine W_nameQ (fun Q hQ => ?_)
  obtain ⟨H, hH⟩ : ∃ H, H = s.heap := ⟨_, rfl⟩
  replace hS : va_S A s.heap H [] := by rw [hH]; exact hS
  replace hP : va_P D vwCl [(a_p0, .inr (11, [.ref a_p0_rules, .ref a_p0_state, .ref a_p0_tape, .ref a_p0_reader, .ref a_p0_kitchen, .ref a_p0_luck, .ref a_p0_plans, .ref a_p0_coups, .ref a_p0_past, .ref a_p0_fairDays, .ref a_p0_images, .ref a_p0_imageHeld, .ref a_p0_sheets, .int (Int32.ofInt i_p0_latestFault), .int (Int32.ofInt i_p0_latestTear)])), (a_p0_sheets, .inl (G 5, 4, .inr (.inr (.inr (.inr (va_up (va_up (va_up (va_up (fun _ => none) 0 (some a_p0_sheets_0)) 1 (some a_p0_sheets_1)) 2 (some a_p0_sheets_2)) 3 (some a_p0_sheets_3))))))), (a_p0_sheets_0, .inr (7, [.int (Int32.ofInt i_p0_sheets_0_lane), .int (Int32.ofInt i_p0_sheets_0_size), .ref a_p0_sheets_0_cells])), (a_p0_sheets_0_cells, .inl (G 1, 40, .inl (zA v_p0_sheets_0_cells))), (a_p0_sheets_1, .inr (7, [.int (Int32.ofInt i_p0_sheets_1_lane), .int (Int32.ofInt i_p0_sheets_1_size), .ref a_p0_sheets_1_cells])), (a_p0_sheets_1_cells, .inl (G 1, 40, .inl (zA v_p0_sheets_1_cells))), (a_p0_sheets_2, .inr (7, [.int (Int32.ofInt i_p0_sheets_2_lane), .int (Int32.ofInt i_p0_sheets_2_size), .ref a_p0_sheets_2_cells])), (a_p0_sheets_2_cells, .inl (G 1, 40, .inl (zA v_p0_sheets_2_cells))), (a_p0_sheets_3, .inr (7, [.int (Int32.ofInt i_p0_sheets_3_lane), .int (Int32.ofInt i_p0_sheets_3_size), .ref a_p0_sheets_3_cells])), (a_p0_sheets_3_cells, .inl (G 1, 40, .inl (zA v_p0_sheets_3_cells)))] H := by rw [hH]; exact hP
  rw [← hH]
  clear hH
  unfold f_X11_sheet at hf
  refine lv_iload_n hx hb dX11_sheet_0 rfl (lv_at hl 1 rfl) ?_
  have hq := bd1_s hf
  clear hf
  obtain ⟨z1, hcall, hf⟩ := hq
  refine gcI (ws' := [(a_p0, .inr (11, [.ref a_p0_rules, .ref a_p0_state, .ref a_p0_tape, .ref a_p0_reader, .ref a_p0_kitchen, .ref a_p0_luck, .ref a_p0_plans, .ref a_p0_coups, .ref a_p0_past, .ref a_p0_fairDays, .ref a_p0_images, .ref a_p0_imageHeld, .ref a_p0_sheets, .int (Int32.ofInt i_p0_latestFault), .int (Int32.ofInt i_p0_latestTear)])), (a_p0_sheets, .inl (G 5, 4, .inr (.inr (.inr (.inr (va_up (va_up (va_up (va_up (fun _ => none) 0 (some a_p0_sheets_0)) 1 (some a_p0_sheets_1)) 2 (some a_p0_sheets_2)) 3 (some a_p0_sheets_3))))))), (a_p0_sheets_0, .inr (7, [.int (Int32.ofInt i_p0_sheets_0_lane), .int (Int32.ofInt i_p0_sheets_0_size), .ref a_p0_sheets_0_cells])), (a_p0_sheets_0_cells, .inl (G 1, 40, .inl (zA v_p0_sheets_0_cells))), (a_p0_sheets_1, .inr (7, [.int (Int32.ofInt i_p0_sheets_1_lane), .int (Int32.ofInt i_p0_sheets_1_size), .ref a_p0_sheets_1_cells])), (a_p0_sheets_1_cells, .inl (G 1, 40, .inl (zA v_p0_sheets_1_cells))), (a_p0_sheets_2, .inr (7, [.int (Int32.ofInt i_p0_sheets_2_lane), .int (Int32.ofInt i_p0_sheets_2_size), .ref a_p0_sheets_2_cells])), (a_p0_sheets_2_cells, .inl (G 1, 40, .inl (zA v_p0_sheets_2_cells))), (a_p0_sheets_3, .inr (7, [.int (Int32.ofInt i_p0_sheets_3_lane), .int (Int32.ofInt i_p0_sheets_3_size), .ref a_p0_sheets_3_cells])), (a_p0_sheets_3_cells, .inl (G 1, 40, .inl (zA v_p0_sheets_3_cells)))]) (va_runS (As := [.int (Int32.ofInt x1)]) (rest := []) ⟨hx, hb, hml, hown, hts⟩ (c_X11_isSheet (l := l) (D := D) (G := G) (sz := H.size) (x0 := x1) (r := z1) (hf := hcall)) (va_cwS 1 hts gX11_sheet_X11_isSheet rfl rfl rfl (by decide +kernel) ⟨Nat.le_of_ble_eq_true rfl, Nat.le_of_ble_eq_true rfl⟩) (preG_S (hP.sub [] rfl) (hD.sub [] rfl rfl) hK) rfl rfl hl.1 rfl (lv_room (Nat.le_of_ble_eq_true rfl)) dX11_sheet_1 ⟨Nat.le_of_ble_eq_true rfl, Nat.le_of_ble_eq_true rfl⟩) hP hD hS hA [] [0, 1, 2, 3, 4, 5, 6, 7, 8, 9] [0, 1, 2, 3, 4, 5, 6, 7, 8, 9] rfl rfl rfl (by decide) rfl rfl rfl (fun H locs hP hD hS => ?_)
  clear hcall
  have hr1 := ck_c hf
  replace hf := ck_r hf
  refine lv_if_eq (tgt := 20) hx hb dX11_sheet_4 (by decide) (fun cc => ?_) (fun cc => ?_)
  ·
    replace hf := ite_t ((z_eq0 hr1).mp cc) hf
    clear cc
    refine lv_iconst (v := Int32.ofInt (-1 : Int)) hx hb dX11_sheet_20 (by decide) ?_
    obtain ⟨rfl, rfl, rfl, rfl, rfl, rfl, rfl, rfl, rfl, rfl, rfl, rfl, rfl⟩ := ou13 hf
    rw [hQ]
    exact W.iret hx hb hr (fun t ht hW => ⟨⟨_, (), rfl, rfl, by rw [ht]; exact hP, va_K.moved hW.alike hK, hD⟩, hS.F ht⟩) hS.2.2 dX11_sheet_21
  ·
    replace hf := ite_f (fun h9 => cc ((z_eq0 hr1).mpr h9)) hf
    clear cc
    refine lv_iload_n hx hb dX11_sheet_7 rfl (lv_at hl 2 rfl) ?_
    have hq := bd1_s hf
    clear hf
    obtain ⟨z3, hcall, hf⟩ := hq
    refine gcI (ws' := [(a_p0, .inr (11, [.ref a_p0_rules, .ref a_p0_state, .ref a_p0_tape, .ref a_p0_reader, .ref a_p0_kitchen, .ref a_p0_luck, .ref a_p0_plans, .ref a_p0_coups, .ref a_p0_past, .ref a_p0_fairDays, .ref a_p0_images, .ref a_p0_imageHeld, .ref a_p0_sheets, .int (Int32.ofInt i_p0_latestFault), .int (Int32.ofInt i_p0_latestTear)])), (a_p0_sheets, .inl (G 5, 4, .inr (.inr (.inr (.inr (va_up (va_up (va_up (va_up (fun _ => none) 0 (some a_p0_sheets_0)) 1 (some a_p0_sheets_1)) 2 (some a_p0_sheets_2)) 3 (some a_p0_sheets_3))))))), (a_p0_sheets_0, .inr (7, [.int (Int32.ofInt i_p0_sheets_0_lane), .int (Int32.ofInt i_p0_sheets_0_size), .ref a_p0_sheets_0_cells])), (a_p0_sheets_0_cells, .inl (G 1, 40, .inl (zA v_p0_sheets_0_cells))), (a_p0_sheets_1, .inr (7, [.int (Int32.ofInt i_p0_sheets_1_lane), .int (Int32.ofInt i_p0_sheets_1_size), .ref a_p0_sheets_1_cells])), (a_p0_sheets_1_cells, .inl (G 1, 40, .inl (zA v_p0_sheets_1_cells))), (a_p0_sheets_2, .inr (7, [.int (Int32.ofInt i_p0_sheets_2_lane), .int (Int32.ofInt i_p0_sheets_2_size), .ref a_p0_sheets_2_cells])), (a_p0_sheets_2_cells, .inl (G 1, 40, .inl (zA v_p0_sheets_2_cells))), (a_p0_sheets_3, .inr (7, [.int (Int32.ofInt i_p0_sheets_3_lane), .int (Int32.ofInt i_p0_sheets_3_size), .ref a_p0_sheets_3_cells])), (a_p0_sheets_3_cells, .inl (G 1, 40, .inl (zA v_p0_sheets_3_cells)))]) (va_runS (As := [.int (Int32.ofInt x2)]) (rest := []) ⟨hx, hb, hml, hown, hts⟩ (c_X11_isLane (l := l) (D := D) (G := G) (sz := H.size) (x0 := x2) (r := z3) (hf := hcall)) (va_cwS 1 hts gX11_sheet_X11_isLane rfl rfl rfl (by decide +kernel) ⟨Nat.le_of_ble_eq_true rfl, Nat.le_of_ble_eq_true rfl⟩) (preG_S (hP.sub [] rfl) (hD.sub [] rfl rfl) hK) rfl rfl hl.1 rfl (lv_room (Nat.le_of_ble_eq_true rfl)) dX11_sheet_8 ⟨Nat.le_of_ble_eq_true rfl, Nat.le_of_ble_eq_true rfl⟩) hP hD hS hA [] [0, 1, 2, 3, 4, 5, 6, 7, 8, 9] [0, 1, 2, 3, 4, 5, 6, 7, 8, 9] rfl rfl rfl (by decide) rfl rfl rfl (fun H locs hP hD hS => ?_)
    clear hcall
    have hr3 := ck_c hf
    replace hf := ck_r hf
    refine lv_if_eq (tgt := 20) hx hb dX11_sheet_11 (by decide) (fun cc => ?_) (fun cc => ?_)
    ·
      replace hf := ite_t ((z_eq0 hr3).mp cc) hf
      clear cc
      refine lv_iconst (v := Int32.ofInt (-1 : Int)) hx hb dX11_sheet_20 (by decide) ?_
      obtain ⟨rfl, rfl, rfl, rfl, rfl, rfl, rfl, rfl, rfl, rfl, rfl, rfl, rfl⟩ := ou13 hf
      rw [hQ]
      exact W.iret hx hb hr (fun t ht hW => ⟨⟨_, (), rfl, rfl, by rw [ht]; exact hP, va_K.moved hW.alike hK, hD⟩, hS.F ht⟩) hS.2.2 dX11_sheet_21
    ·
      replace hf := ite_f (fun h9 => cc ((z_eq0 hr3).mpr h9)) hf
      clear cc
      refine lv_iload_n hx hb dX11_sheet_14 rfl (lv_at hl 3 rfl) ?_
      refine lv_bipush (v := Int32.ofInt (40 : Int)) hx hb dX11_sheet_15 (by decide) ?_
      have hr4 := ck_c hf
      replace hf := ck_r hf
      refine lv_icmp_le (tgt := 22) hx hb dX11_sheet_17 (by decide) (fun cc => ?_) (fun cc => ?_)
      ·
        replace hf := ite_t ((z_le hr4 (by decide)).mp cc) hf
        clear cc
        refine lv_iload_n hx hb dX11_sheet_22 rfl (lv_at hl 3 rfl) ?_
        refine lv_if_ge (tgt := 29) hx hb dX11_sheet_23 (by decide) (fun cc => ?_) (fun cc => ?_)
        ·
          replace hf := ite_t ((z_0le hr4).mp cc) hf
          clear cc
          refine lv_aload_n hx hb dX11_sheet_29 rfl (lv_at hl 0 rfl) ?_
          refine va_get (D := D) (ci := 11) (v := .ref a_p0_sheets) (C := RX11) (T := TX11) (N := 15) hx hb hts inX11_sheet_X11 hown hK hP 0 rfl rfl 12 (by decide) (hts _ mwX11_sheet_1) (fun _ h9 => h9) rfl dX11_sheet_30 ?_
          refine lv_iload_n hx hb dX11_sheet_33 rfl (lv_at hl 1 rfl) ?_
          have hc := ck_c hf
          replace hf := ck_r hf
          refine va_aldq hx hb hK hP 1 5 rfl rfl (z_ix_in hc) dX11_sheet_34 ?_
          clear hc
          rcases Decidable.em (x1 = (0 : Int)) with cc | cc
          ·
            replace hf := ite_t cc hf
            refine W.eq (g2 := F0 m 35 ls [.ref a_p0_sheets_0]) (by rw [cc]; rfl) ?_
            clear cc
            refine lv_iload_n hx hb dX11_sheet_35 rfl (lv_at hl 2 rfl) ?_
            refine lv_iload_n hx hb dX11_sheet_36 rfl (lv_at hl 3 rfl) ?_
            have hq := bd3_s hf
            clear hf
            obtain ⟨z6, z7, w8, hcall, hf⟩ := hq
            refine gcV (ws' := [(a_p0, .inr (11, [.ref a_p0_rules, .ref a_p0_state, .ref a_p0_tape, .ref a_p0_reader, .ref a_p0_kitchen, .ref a_p0_luck, .ref a_p0_plans, .ref a_p0_coups, .ref a_p0_past, .ref a_p0_fairDays, .ref a_p0_images, .ref a_p0_imageHeld, .ref a_p0_sheets, .int (Int32.ofInt i_p0_latestFault), .int (Int32.ofInt i_p0_latestTear)])), (a_p0_sheets, .inl (G 5, 4, .inr (.inr (.inr (.inr (va_up (va_up (va_up (va_up (fun _ => none) 0 (some a_p0_sheets_0)) 1 (some a_p0_sheets_1)) 2 (some a_p0_sheets_2)) 3 (some a_p0_sheets_3))))))), (a_p0_sheets_0, .inr (7, [.int (Int32.ofInt z6), .int (Int32.ofInt z7), .ref a_p0_sheets_0_cells])), (a_p0_sheets_0_cells, .inl (G 1, 40, .inl (zA w8))), (a_p0_sheets_1, .inr (7, [.int (Int32.ofInt i_p0_sheets_1_lane), .int (Int32.ofInt i_p0_sheets_1_size), .ref a_p0_sheets_1_cells])), (a_p0_sheets_1_cells, .inl (G 1, 40, .inl (zA v_p0_sheets_1_cells))), (a_p0_sheets_2, .inr (7, [.int (Int32.ofInt i_p0_sheets_2_lane), .int (Int32.ofInt i_p0_sheets_2_size), .ref a_p0_sheets_2_cells])), (a_p0_sheets_2_cells, .inl (G 1, 40, .inl (zA v_p0_sheets_2_cells))), (a_p0_sheets_3, .inr (7, [.int (Int32.ofInt i_p0_sheets_3_lane), .int (Int32.ofInt i_p0_sheets_3_size), .ref a_p0_sheets_3_cells])), (a_p0_sheets_3_cells, .inl (G 1, 40, .inl (zA v_p0_sheets_3_cells)))]) (va_runV (As := [.int (Int32.ofInt x2), .int (Int32.ofInt x3)]) (rest := []) ⟨hx, hb, hml, hown, hts⟩ (c_X7_renew (l := l) (D := D) (G := G) (sz := H.size) (a_p0 := a_p0_sheets_0) (a_p0_cells := a_p0_sheets_0_cells) (i_p0_lane := i_p0_sheets_0_lane) (i_p0_size := i_p0_sheets_0_size) (v_p0_cells := v_p0_sheets_0_cells) (x1 := x2) (x2 := x3) (o_i_p0_lane := z6) (o_i_p0_size := z7) (o_v_p0_cells := w8) (hf := hcall)) (cwV 2 hts gX11_sheet_X7_renew rfl rfl rfl (by decide +kernel) ⟨Nat.le_of_ble_eq_true rfl, Nat.le_of_ble_eq_true rfl⟩) (preG_V (ci := 7) (hP.sub [2, 3] rfl) (hD.sub [2, 3] rfl rfl) hK rfl rfl) rfl rfl hl.1 rfl (lv_room (Nat.le_of_ble_eq_true rfl)) dX11_sheet_37 ⟨Nat.le_of_ble_eq_true rfl, Nat.le_of_ble_eq_true rfl⟩) hP hD hS hA [2, 3] [0, 1, 4, 5, 6, 7, 8, 9] [0, 1, 8, 9, 2, 3, 4, 5, 6, 7] rfl rfl rfl (by decide) rfl rfl rfl (fun H locs hP hD hS => ?_)
            clear hcall
            refine lv_iconst (v := Int32.ofInt (1 : Int)) hx hb dX11_sheet_40 (by decide) ?_
            obtain ⟨rfl, rfl, rfl, rfl, rfl, rfl, rfl, rfl, rfl, rfl, rfl, rfl, rfl⟩ := ou13 hf
            rw [hQ]
            exact W.iret hx hb hr (fun t ht hW => ⟨⟨_, (), rfl, rfl, by rw [ht]; exact hP, va_K.moved hW.alike hK, hD⟩, hS.F ht⟩) hS.2.2 dX11_sheet_41
          replace hf := ite_f cc hf
          clear cc
          rcases Decidable.em (x1 = (1 : Int)) with cc | cc
          ·
            replace hf := ite_t cc hf
            refine W.eq (g2 := F0 m 35 ls [.ref a_p0_sheets_1]) (by rw [cc]; rfl) ?_
            clear cc
            refine lv_iload_n hx hb dX11_sheet_35 rfl (lv_at hl 2 rfl) ?_
            refine lv_iload_n hx hb dX11_sheet_36 rfl (lv_at hl 3 rfl) ?_
            have hq := bd3_s hf
            clear hf
            obtain ⟨z9, z10, w11, hcall, hf⟩ := hq
            refine gcV (ws' := [(a_p0, .inr (11, [.ref a_p0_rules, .ref a_p0_state, .ref a_p0_tape, .ref a_p0_reader, .ref a_p0_kitchen, .ref a_p0_luck, .ref a_p0_plans, .ref a_p0_coups, .ref a_p0_past, .ref a_p0_fairDays, .ref a_p0_images, .ref a_p0_imageHeld, .ref a_p0_sheets, .int (Int32.ofInt i_p0_latestFault), .int (Int32.ofInt i_p0_latestTear)])), (a_p0_sheets, .inl (G 5, 4, .inr (.inr (.inr (.inr (va_up (va_up (va_up (va_up (fun _ => none) 0 (some a_p0_sheets_0)) 1 (some a_p0_sheets_1)) 2 (some a_p0_sheets_2)) 3 (some a_p0_sheets_3))))))), (a_p0_sheets_0, .inr (7, [.int (Int32.ofInt i_p0_sheets_0_lane), .int (Int32.ofInt i_p0_sheets_0_size), .ref a_p0_sheets_0_cells])), (a_p0_sheets_0_cells, .inl (G 1, 40, .inl (zA v_p0_sheets_0_cells))), (a_p0_sheets_1, .inr (7, [.int (Int32.ofInt z9), .int (Int32.ofInt z10), .ref a_p0_sheets_1_cells])), (a_p0_sheets_1_cells, .inl (G 1, 40, .inl (zA w11))), (a_p0_sheets_2, .inr (7, [.int (Int32.ofInt i_p0_sheets_2_lane), .int (Int32.ofInt i_p0_sheets_2_size), .ref a_p0_sheets_2_cells])), (a_p0_sheets_2_cells, .inl (G 1, 40, .inl (zA v_p0_sheets_2_cells))), (a_p0_sheets_3, .inr (7, [.int (Int32.ofInt i_p0_sheets_3_lane), .int (Int32.ofInt i_p0_sheets_3_size), .ref a_p0_sheets_3_cells])), (a_p0_sheets_3_cells, .inl (G 1, 40, .inl (zA v_p0_sheets_3_cells)))]) (va_runV (As := [.int (Int32.ofInt x2), .int (Int32.ofInt x3)]) (rest := []) ⟨hx, hb, hml, hown, hts⟩ (c_X7_renew (l := l) (D := D) (G := G) (sz := H.size) (a_p0 := a_p0_sheets_1) (a_p0_cells := a_p0_sheets_1_cells) (i_p0_lane := i_p0_sheets_1_lane) (i_p0_size := i_p0_sheets_1_size) (v_p0_cells := v_p0_sheets_1_cells) (x1 := x2) (x2 := x3) (o_i_p0_lane := z9) (o_i_p0_size := z10) (o_v_p0_cells := w11) (hf := hcall)) (cwV 2 hts gX11_sheet_X7_renew rfl rfl rfl (by decide +kernel) ⟨Nat.le_of_ble_eq_true rfl, Nat.le_of_ble_eq_true rfl⟩) (preG_V (ci := 7) (hP.sub [4, 5] rfl) (hD.sub [4, 5] rfl rfl) hK rfl rfl) rfl rfl hl.1 rfl (lv_room (Nat.le_of_ble_eq_true rfl)) dX11_sheet_37 ⟨Nat.le_of_ble_eq_true rfl, Nat.le_of_ble_eq_true rfl⟩) hP hD hS hA [4, 5] [0, 1, 2, 3, 6, 7, 8, 9] [0, 1, 2, 3, 8, 9, 4, 5, 6, 7] rfl rfl rfl (by decide) rfl rfl rfl (fun H locs hP hD hS => ?_)
            clear hcall
            refine lv_iconst (v := Int32.ofInt (1 : Int)) hx hb dX11_sheet_40 (by decide) ?_
            obtain ⟨rfl, rfl, rfl, rfl, rfl, rfl, rfl, rfl, rfl, rfl, rfl, rfl, rfl⟩ := ou13 hf
            rw [hQ]
            exact W.iret hx hb hr (fun t ht hW => ⟨⟨_, (), rfl, rfl, by rw [ht]; exact hP, va_K.moved hW.alike hK, hD⟩, hS.F ht⟩) hS.2.2 dX11_sheet_41
          replace hf := ite_f cc hf
          clear cc
          rcases Decidable.em (x1 = (2 : Int)) with cc | cc
          ·
            replace hf := ite_t cc hf
            refine W.eq (g2 := F0 m 35 ls [.ref a_p0_sheets_2]) (by rw [cc]; rfl) ?_
            clear cc
            refine lv_iload_n hx hb dX11_sheet_35 rfl (lv_at hl 2 rfl) ?_
            refine lv_iload_n hx hb dX11_sheet_36 rfl (lv_at hl 3 rfl) ?_
            have hq := bd3_s hf
            clear hf
            obtain ⟨z12, z13, w14, hcall, hf⟩ := hq
            refine gcV (ws' := [(a_p0, .inr (11, [.ref a_p0_rules, .ref a_p0_state, .ref a_p0_tape, .ref a_p0_reader, .ref a_p0_kitchen, .ref a_p0_luck, .ref a_p0_plans, .ref a_p0_coups, .ref a_p0_past, .ref a_p0_fairDays, .ref a_p0_images, .ref a_p0_imageHeld, .ref a_p0_sheets, .int (Int32.ofInt i_p0_latestFault), .int (Int32.ofInt i_p0_latestTear)])), (a_p0_sheets, .inl (G 5, 4, .inr (.inr (.inr (.inr (va_up (va_up (va_up (va_up (fun _ => none) 0 (some a_p0_sheets_0)) 1 (some a_p0_sheets_1)) 2 (some a_p0_sheets_2)) 3 (some a_p0_sheets_3))))))), (a_p0_sheets_0, .inr (7, [.int (Int32.ofInt i_p0_sheets_0_lane), .int (Int32.ofInt i_p0_sheets_0_size), .ref a_p0_sheets_0_cells])), (a_p0_sheets_0_cells, .inl (G 1, 40, .inl (zA v_p0_sheets_0_cells))), (a_p0_sheets_1, .inr (7, [.int (Int32.ofInt i_p0_sheets_1_lane), .int (Int32.ofInt i_p0_sheets_1_size), .ref a_p0_sheets_1_cells])), (a_p0_sheets_1_cells, .inl (G 1, 40, .inl (zA v_p0_sheets_1_cells))), (a_p0_sheets_2, .inr (7, [.int (Int32.ofInt z12), .int (Int32.ofInt z13), .ref a_p0_sheets_2_cells])), (a_p0_sheets_2_cells, .inl (G 1, 40, .inl (zA w14))), (a_p0_sheets_3, .inr (7, [.int (Int32.ofInt i_p0_sheets_3_lane), .int (Int32.ofInt i_p0_sheets_3_size), .ref a_p0_sheets_3_cells])), (a_p0_sheets_3_cells, .inl (G 1, 40, .inl (zA v_p0_sheets_3_cells)))]) (va_runV (As := [.int (Int32.ofInt x2), .int (Int32.ofInt x3)]) (rest := []) ⟨hx, hb, hml, hown, hts⟩ (c_X7_renew (l := l) (D := D) (G := G) (sz := H.size) (a_p0 := a_p0_sheets_2) (a_p0_cells := a_p0_sheets_2_cells) (i_p0_lane := i_p0_sheets_2_lane) (i_p0_size := i_p0_sheets_2_size) (v_p0_cells := v_p0_sheets_2_cells) (x1 := x2) (x2 := x3) (o_i_p0_lane := z12) (o_i_p0_size := z13) (o_v_p0_cells := w14) (hf := hcall)) (cwV 2 hts gX11_sheet_X7_renew rfl rfl rfl (by decide +kernel) ⟨Nat.le_of_ble_eq_true rfl, Nat.le_of_ble_eq_true rfl⟩) (preG_V (ci := 7) (hP.sub [6, 7] rfl) (hD.sub [6, 7] rfl rfl) hK rfl rfl) rfl rfl hl.1 rfl (lv_room (Nat.le_of_ble_eq_true rfl)) dX11_sheet_37 ⟨Nat.le_of_ble_eq_true rfl, Nat.le_of_ble_eq_true rfl⟩) hP hD hS hA [6, 7] [0, 1, 2, 3, 4, 5, 8, 9] [0, 1, 2, 3, 4, 5, 8, 9, 6, 7] rfl rfl rfl (by decide) rfl rfl rfl (fun H locs hP hD hS => ?_)
            clear hcall
            refine lv_iconst (v := Int32.ofInt (1 : Int)) hx hb dX11_sheet_40 (by decide) ?_
            obtain ⟨rfl, rfl, rfl, rfl, rfl, rfl, rfl, rfl, rfl, rfl, rfl, rfl, rfl⟩ := ou13 hf
            rw [hQ]
            exact W.iret hx hb hr (fun t ht hW => ⟨⟨_, (), rfl, rfl, by rw [ht]; exact hP, va_K.moved hW.alike hK, hD⟩, hS.F ht⟩) hS.2.2 dX11_sheet_41
          replace hf := ite_f cc hf
          clear cc
          rcases Decidable.em (x1 = (3 : Int)) with cc | cc
          ·
            replace hf := ite_t cc hf
            refine W.eq (g2 := F0 m 35 ls [.ref a_p0_sheets_3]) (by rw [cc]; rfl) ?_
            clear cc
            refine lv_iload_n hx hb dX11_sheet_35 rfl (lv_at hl 2 rfl) ?_
            refine lv_iload_n hx hb dX11_sheet_36 rfl (lv_at hl 3 rfl) ?_
            have hq := bd3_s hf
            clear hf
            obtain ⟨z15, z16, w17, hcall, hf⟩ := hq
            refine gcV (ws' := [(a_p0, .inr (11, [.ref a_p0_rules, .ref a_p0_state, .ref a_p0_tape, .ref a_p0_reader, .ref a_p0_kitchen, .ref a_p0_luck, .ref a_p0_plans, .ref a_p0_coups, .ref a_p0_past, .ref a_p0_fairDays, .ref a_p0_images, .ref a_p0_imageHeld, .ref a_p0_sheets, .int (Int32.ofInt i_p0_latestFault), .int (Int32.ofInt i_p0_latestTear)])), (a_p0_sheets, .inl (G 5, 4, .inr (.inr (.inr (.inr (va_up (va_up (va_up (va_up (fun _ => none) 0 (some a_p0_sheets_0)) 1 (some a_p0_sheets_1)) 2 (some a_p0_sheets_2)) 3 (some a_p0_sheets_3))))))), (a_p0_sheets_0, .inr (7, [.int (Int32.ofInt i_p0_sheets_0_lane), .int (Int32.ofInt i_p0_sheets_0_size), .ref a_p0_sheets_0_cells])), (a_p0_sheets_0_cells, .inl (G 1, 40, .inl (zA v_p0_sheets_0_cells))), (a_p0_sheets_1, .inr (7, [.int (Int32.ofInt i_p0_sheets_1_lane), .int (Int32.ofInt i_p0_sheets_1_size), .ref a_p0_sheets_1_cells])), (a_p0_sheets_1_cells, .inl (G 1, 40, .inl (zA v_p0_sheets_1_cells))), (a_p0_sheets_2, .inr (7, [.int (Int32.ofInt i_p0_sheets_2_lane), .int (Int32.ofInt i_p0_sheets_2_size), .ref a_p0_sheets_2_cells])), (a_p0_sheets_2_cells, .inl (G 1, 40, .inl (zA v_p0_sheets_2_cells))), (a_p0_sheets_3, .inr (7, [.int (Int32.ofInt z15), .int (Int32.ofInt z16), .ref a_p0_sheets_3_cells])), (a_p0_sheets_3_cells, .inl (G 1, 40, .inl (zA w17)))]) (va_runV (As := [.int (Int32.ofInt x2), .int (Int32.ofInt x3)]) (rest := []) ⟨hx, hb, hml, hown, hts⟩ (c_X7_renew (l := l) (D := D) (G := G) (sz := H.size) (a_p0 := a_p0_sheets_3) (a_p0_cells := a_p0_sheets_3_cells) (i_p0_lane := i_p0_sheets_3_lane) (i_p0_size := i_p0_sheets_3_size) (v_p0_cells := v_p0_sheets_3_cells) (x1 := x2) (x2 := x3) (o_i_p0_lane := z15) (o_i_p0_size := z16) (o_v_p0_cells := w17) (hf := hcall)) (cwV 2 hts gX11_sheet_X7_renew rfl rfl rfl (by decide +kernel) ⟨Nat.le_of_ble_eq_true rfl, Nat.le_of_ble_eq_true rfl⟩) (preG_V (ci := 7) (hP.sub [8, 9] rfl) (hD.sub [8, 9] rfl rfl) hK rfl rfl) rfl rfl hl.1 rfl (lv_room (Nat.le_of_ble_eq_true rfl)) dX11_sheet_37 ⟨Nat.le_of_ble_eq_true rfl, Nat.le_of_ble_eq_true rfl⟩) hP hD hS hA [8, 9] [0, 1, 2, 3, 4, 5, 6, 7] [0, 1, 2, 3, 4, 5, 6, 7, 8, 9] rfl rfl rfl (by decide) rfl rfl rfl (fun H locs hP hD hS => ?_)
            clear hcall
            refine lv_iconst (v := Int32.ofInt (1 : Int)) hx hb dX11_sheet_40 (by decide) ?_
            obtain ⟨rfl, rfl, rfl, rfl, rfl, rfl, rfl, rfl, rfl, rfl, rfl, rfl, rfl⟩ := ou13 hf
            rw [hQ]
            exact W.iret hx hb hr (fun t ht hW => ⟨⟨_, (), rfl, rfl, by rw [ht]; exact hP, va_K.moved hW.alike hK, hD⟩, hS.F ht⟩) hS.2.2 dX11_sheet_41
          replace hf := ite_f cc hf
          clear cc
          cases hf
        ·
          replace hf := ite_f (fun h9 => cc ((z_0le hr4).mpr h9)) hf
          clear cc
          refine lv_bipush (v := Int32.ofInt (-14 : Int)) hx hb dX11_sheet_26 (by decide) ?_
          obtain ⟨rfl, rfl, rfl, rfl, rfl, rfl, rfl, rfl, rfl, rfl, rfl, rfl, rfl⟩ := ou13 hf
          rw [hQ]
          exact W.iret hx hb hr (fun t ht hW => ⟨⟨_, (), rfl, rfl, by rw [ht]; exact hP, va_K.moved hW.alike hK, hD⟩, hS.F ht⟩) hS.2.2 dX11_sheet_28
      ·
        replace hf := ite_f (fun h9 => cc ((z_le hr4 (by decide)).mpr h9)) hf
        clear cc
        refine lv_iconst (v := Int32.ofInt (-1 : Int)) hx hb dX11_sheet_20 (by decide) ?_
        obtain ⟨rfl, rfl, rfl, rfl, rfl, rfl, rfl, rfl, rfl, rfl, rfl, rfl, rfl⟩ := ou13 hf
        rw [hQ]
        exact W.iret hx hb hr (fun t ht hW => ⟨⟨_, (), rfl, rfl, by rw [ht]; exact hP, va_K.moved hW.alike hK, hD⟩, hS.F ht⟩) hS.2.2 dX11_sheet_21

noncomputable def f_X11_lay (i_p0_sheets_0_lane : Int) (i_p0_sheets_0_size : Int) (v_p0_sheets_0_cells : (Int → Int)) (i_p0_sheets_1_lane : Int) (i_p0_sheets_1_size : Int) (v_p0_sheets_1_cells : (Int → Int)) (i_p0_sheets_2_lane : Int) (i_p0_sheets_2_size : Int) (v_p0_sheets_2_cells : (Int → Int)) (i_p0_sheets_3_lane : Int) (i_p0_sheets_3_size : Int) (v_p0_sheets_3_cells : (Int → Int)) (x1 : Int) (x2 : Int) (x3 : Int) : Option (Int × (Int → Int) × (Int → Int) × (Int → Int) × (Int → Int)) := (bd1 (f_X11_isSheet x1) (fun (z1 : Int) => (ck (z_r32 z1) (if z1 = (0 : Int) then (some ((-1 : Int), v_p0_sheets_0_cells, v_p0_sheets_1_cells, v_p0_sheets_2_cells, v_p0_sheets_3_cells)) else (ck (z_ix x1 4) (if x1 = (0 : Int) then (bd1 (f_X7_faultAt i_p0_sheets_0_lane i_p0_sheets_0_size i_p0_sheets_0_lane x2) (fun (z3 : Int) => (bnd z3 (fun (z4 : Int) => (ck (z_r32 z4) (if z4 = (0 : Int) then (bd1 (f_X7_put i_p0_sheets_0_lane v_p0_sheets_0_cells x2 x3) (fun (w6 : (Int → Int)) => (some ((1 : Int), w6, v_p0_sheets_1_cells, v_p0_sheets_2_cells, v_p0_sheets_3_cells)))) else (some (((-10 : Int) - z4), v_p0_sheets_0_cells, v_p0_sheets_1_cells, v_p0_sheets_2_cells, v_p0_sheets_3_cells)))))))) else (if x1 = (1 : Int) then (bd1 (f_X7_faultAt i_p0_sheets_1_lane i_p0_sheets_1_size i_p0_sheets_1_lane x2) (fun (z7 : Int) => (bnd z7 (fun (z8 : Int) => (ck (z_r32 z8) (if z8 = (0 : Int) then (bd1 (f_X7_put i_p0_sheets_1_lane v_p0_sheets_1_cells x2 x3) (fun (w10 : (Int → Int)) => (some ((1 : Int), v_p0_sheets_0_cells, w10, v_p0_sheets_2_cells, v_p0_sheets_3_cells)))) else (some (((-10 : Int) - z8), v_p0_sheets_0_cells, v_p0_sheets_1_cells, v_p0_sheets_2_cells, v_p0_sheets_3_cells)))))))) else (if x1 = (2 : Int) then (bd1 (f_X7_faultAt i_p0_sheets_2_lane i_p0_sheets_2_size i_p0_sheets_2_lane x2) (fun (z11 : Int) => (bnd z11 (fun (z12 : Int) => (ck (z_r32 z12) (if z12 = (0 : Int) then (bd1 (f_X7_put i_p0_sheets_2_lane v_p0_sheets_2_cells x2 x3) (fun (w14 : (Int → Int)) => (some ((1 : Int), v_p0_sheets_0_cells, v_p0_sheets_1_cells, w14, v_p0_sheets_3_cells)))) else (some (((-10 : Int) - z12), v_p0_sheets_0_cells, v_p0_sheets_1_cells, v_p0_sheets_2_cells, v_p0_sheets_3_cells)))))))) else (if x1 = (3 : Int) then (bd1 (f_X7_faultAt i_p0_sheets_3_lane i_p0_sheets_3_size i_p0_sheets_3_lane x2) (fun (z15 : Int) => (bnd z15 (fun (z16 : Int) => (ck (z_r32 z16) (if z16 = (0 : Int) then (bd1 (f_X7_put i_p0_sheets_3_lane v_p0_sheets_3_cells x2 x3) (fun (w18 : (Int → Int)) => (some ((1 : Int), v_p0_sheets_0_cells, v_p0_sheets_1_cells, v_p0_sheets_2_cells, w18)))) else (some (((-10 : Int) - z16), v_p0_sheets_0_cells, v_p0_sheets_1_cells, v_p0_sheets_2_cells, v_p0_sheets_3_cells)))))))) else none)))))))))
abbrev rm_X11_lay : Room := { frames := 2, cells := 0, slots := 0, locals := 42 }
theorem inX11_lay_X11 : ∀ w ∈ wsX110, w ∈ wsX11_lay := by decide +kernel
theorem mwX11_lay_1 : Cond.fieldLink RX11 95 "LadleKings" "sheets" "[LLadleKings$Sheet;" ∈ wsX11_lay := by decide +kernel
theorem inX11_lay_X7 : ∀ w ∈ wsX70, w ∈ wsX11_lay := by decide +kernel
theorem mwX11_lay_3 : Cond.fieldLink RX11 284 "LadleKings$Sheet" "lane" "I" ∈ wsX11_lay := by decide +kernel
set_option maxHeartbeats 8000000 in
set_option maxRecDepth 100000 in
theorem c_X11_lay (l : Launch) (D : va_G) (G : Nat → ClassId) (sz : Nat) (a_p0 : Nat) (a_p0_rules : Nat) (a_p0_state : Nat) (a_p0_tape : Nat) (a_p0_reader : Nat) (a_p0_kitchen : Nat) (a_p0_luck : Nat) (a_p0_plans : Nat) (a_p0_coups : Nat) (a_p0_past : Nat) (a_p0_fairDays : Nat) (a_p0_images : Nat) (a_p0_imageHeld : Nat) (a_p0_sheets : Nat) (a_p0_sheets_0 : Nat) (a_p0_sheets_1 : Nat) (a_p0_sheets_2 : Nat) (a_p0_sheets_3 : Nat) (a_p0_sheets_0_cells : Nat) (a_p0_sheets_1_cells : Nat) (a_p0_sheets_2_cells : Nat) (a_p0_sheets_3_cells : Nat) (i_p0_latestFault : Int) (i_p0_latestTear : Int) (i_p0_sheets_0_lane : Int) (i_p0_sheets_0_size : Int) (v_p0_sheets_0_cells : (Int → Int)) (i_p0_sheets_1_lane : Int) (i_p0_sheets_1_size : Int) (v_p0_sheets_1_cells : (Int → Int)) (i_p0_sheets_2_lane : Int) (i_p0_sheets_2_size : Int) (v_p0_sheets_2_cells : (Int → Int)) (i_p0_sheets_3_lane : Int) (i_p0_sheets_3_size : Int) (v_p0_sheets_3_cells : (Int → Int)) (x1 : Int) (x2 : Int) (x3 : Int) (r : Int) (o_v_p0_sheets_0_cells : (Int → Int)) (o_v_p0_sheets_1_cells : (Int → Int)) (o_v_p0_sheets_2_cells : (Int → Int)) (o_v_p0_sheets_3_cells : (Int → Int)) (hf : f_X11_lay i_p0_sheets_0_lane i_p0_sheets_0_size v_p0_sheets_0_cells i_p0_sheets_1_lane i_p0_sheets_1_size v_p0_sheets_1_cells i_p0_sheets_2_lane i_p0_sheets_2_size v_p0_sheets_2_cells i_p0_sheets_3_lane i_p0_sheets_3_size v_p0_sheets_3_cells x1 x2 x3 = some (r, o_v_p0_sheets_0_cells, o_v_p0_sheets_1_cells, o_v_p0_sheets_2_cells, o_v_p0_sheets_3_cells)) : Met l yX11_lay wsX11_lay rm_X11_lay (pcG D G [.ref a_p0, .int (Int32.ofInt x1), .int (Int32.ofInt x2), .int (Int32.ofInt x3)] sz [(a_p0, .inr (11, [.ref a_p0_rules, .ref a_p0_state, .ref a_p0_tape, .ref a_p0_reader, .ref a_p0_kitchen, .ref a_p0_luck, .ref a_p0_plans, .ref a_p0_coups, .ref a_p0_past, .ref a_p0_fairDays, .ref a_p0_images, .ref a_p0_imageHeld, .ref a_p0_sheets, .int (Int32.ofInt i_p0_latestFault), .int (Int32.ofInt i_p0_latestTear)])), (a_p0_sheets, .inl (G 5, 4, .inr (.inr (.inr (.inr (va_up (va_up (va_up (va_up (fun _ => none) 0 (some a_p0_sheets_0)) 1 (some a_p0_sheets_1)) 2 (some a_p0_sheets_2)) 3 (some a_p0_sheets_3))))))), (a_p0_sheets_0, .inr (7, [.int (Int32.ofInt i_p0_sheets_0_lane), .int (Int32.ofInt i_p0_sheets_0_size), .ref a_p0_sheets_0_cells])), (a_p0_sheets_0_cells, .inl (G 1, 40, .inl (zA v_p0_sheets_0_cells))), (a_p0_sheets_1, .inr (7, [.int (Int32.ofInt i_p0_sheets_1_lane), .int (Int32.ofInt i_p0_sheets_1_size), .ref a_p0_sheets_1_cells])), (a_p0_sheets_1_cells, .inl (G 1, 40, .inl (zA v_p0_sheets_1_cells))), (a_p0_sheets_2, .inr (7, [.int (Int32.ofInt i_p0_sheets_2_lane), .int (Int32.ofInt i_p0_sheets_2_size), .ref a_p0_sheets_2_cells])), (a_p0_sheets_2_cells, .inl (G 1, 40, .inl (zA v_p0_sheets_2_cells))), (a_p0_sheets_3, .inr (7, [.int (Int32.ofInt i_p0_sheets_3_lane), .int (Int32.ofInt i_p0_sheets_3_size), .ref a_p0_sheets_3_cells])), (a_p0_sheets_3_cells, .inl (G 1, 40, .inl (zA v_p0_sheets_3_cells)))]) (qcI D G (Int32.ofInt r) [(a_p0, .inr (11, [.ref a_p0_rules, .ref a_p0_state, .ref a_p0_tape, .ref a_p0_reader, .ref a_p0_kitchen, .ref a_p0_luck, .ref a_p0_plans, .ref a_p0_coups, .ref a_p0_past, .ref a_p0_fairDays, .ref a_p0_images, .ref a_p0_imageHeld, .ref a_p0_sheets, .int (Int32.ofInt i_p0_latestFault), .int (Int32.ofInt i_p0_latestTear)])), (a_p0_sheets, .inl (G 5, 4, .inr (.inr (.inr (.inr (va_up (va_up (va_up (va_up (fun _ => none) 0 (some a_p0_sheets_0)) 1 (some a_p0_sheets_1)) 2 (some a_p0_sheets_2)) 3 (some a_p0_sheets_3))))))), (a_p0_sheets_0, .inr (7, [.int (Int32.ofInt i_p0_sheets_0_lane), .int (Int32.ofInt i_p0_sheets_0_size), .ref a_p0_sheets_0_cells])), (a_p0_sheets_0_cells, .inl (G 1, 40, .inl (zA o_v_p0_sheets_0_cells))), (a_p0_sheets_1, .inr (7, [.int (Int32.ofInt i_p0_sheets_1_lane), .int (Int32.ofInt i_p0_sheets_1_size), .ref a_p0_sheets_1_cells])), (a_p0_sheets_1_cells, .inl (G 1, 40, .inl (zA o_v_p0_sheets_1_cells))), (a_p0_sheets_2, .inr (7, [.int (Int32.ofInt i_p0_sheets_2_lane), .int (Int32.ofInt i_p0_sheets_2_size), .ref a_p0_sheets_2_cells])), (a_p0_sheets_2_cells, .inl (G 1, 40, .inl (zA o_v_p0_sheets_2_cells))), (a_p0_sheets_3, .inr (7, [.int (Int32.ofInt i_p0_sheets_3_lane), .int (Int32.ofInt i_p0_sheets_3_size), .ref a_p0_sheets_3_cells])), (a_p0_sheets_3_cells, .inl (G 1, 40, .inl (zA o_v_p0_sheets_3_cells)))] (va_A [(a_p0, .inr (11, [.ref a_p0_rules, .ref a_p0_state, .ref a_p0_tape, .ref a_p0_reader, .ref a_p0_kitchen, .ref a_p0_luck, .ref a_p0_plans, .ref a_p0_coups, .ref a_p0_past, .ref a_p0_fairDays, .ref a_p0_images, .ref a_p0_imageHeld, .ref a_p0_sheets, .int (Int32.ofInt i_p0_latestFault), .int (Int32.ofInt i_p0_latestTear)])), (a_p0_sheets, .inl (G 5, 4, .inr (.inr (.inr (.inr (va_up (va_up (va_up (va_up (fun _ => none) 0 (some a_p0_sheets_0)) 1 (some a_p0_sheets_1)) 2 (some a_p0_sheets_2)) 3 (some a_p0_sheets_3))))))), (a_p0_sheets_0, .inr (7, [.int (Int32.ofInt i_p0_sheets_0_lane), .int (Int32.ofInt i_p0_sheets_0_size), .ref a_p0_sheets_0_cells])), (a_p0_sheets_0_cells, .inl (G 1, 40, .inl (zA v_p0_sheets_0_cells))), (a_p0_sheets_1, .inr (7, [.int (Int32.ofInt i_p0_sheets_1_lane), .int (Int32.ofInt i_p0_sheets_1_size), .ref a_p0_sheets_1_cells])), (a_p0_sheets_1_cells, .inl (G 1, 40, .inl (zA v_p0_sheets_1_cells))), (a_p0_sheets_2, .inr (7, [.int (Int32.ofInt i_p0_sheets_2_lane), .int (Int32.ofInt i_p0_sheets_2_size), .ref a_p0_sheets_2_cells])), (a_p0_sheets_2_cells, .inl (G 1, 40, .inl (zA v_p0_sheets_2_cells))), (a_p0_sheets_3, .inr (7, [.int (Int32.ofInt i_p0_sheets_3_lane), .int (Int32.ofInt i_p0_sheets_3_size), .ref a_p0_sheets_3_cells])), (a_p0_sheets_3_cells, .inl (G 1, 40, .inl (zA v_p0_sheets_3_cells)))] sz)) 0 0 (va_A [(a_p0, .inr (11, [.ref a_p0_rules, .ref a_p0_state, .ref a_p0_tape, .ref a_p0_reader, .ref a_p0_kitchen, .ref a_p0_luck, .ref a_p0_plans, .ref a_p0_coups, .ref a_p0_past, .ref a_p0_fairDays, .ref a_p0_images, .ref a_p0_imageHeld, .ref a_p0_sheets, .int (Int32.ofInt i_p0_latestFault), .int (Int32.ofInt i_p0_latestTear)])), (a_p0_sheets, .inl (G 5, 4, .inr (.inr (.inr (.inr (va_up (va_up (va_up (va_up (fun _ => none) 0 (some a_p0_sheets_0)) 1 (some a_p0_sheets_1)) 2 (some a_p0_sheets_2)) 3 (some a_p0_sheets_3))))))), (a_p0_sheets_0, .inr (7, [.int (Int32.ofInt i_p0_sheets_0_lane), .int (Int32.ofInt i_p0_sheets_0_size), .ref a_p0_sheets_0_cells])), (a_p0_sheets_0_cells, .inl (G 1, 40, .inl (zA v_p0_sheets_0_cells))), (a_p0_sheets_1, .inr (7, [.int (Int32.ofInt i_p0_sheets_1_lane), .int (Int32.ofInt i_p0_sheets_1_size), .ref a_p0_sheets_1_cells])), (a_p0_sheets_1_cells, .inl (G 1, 40, .inl (zA v_p0_sheets_1_cells))), (a_p0_sheets_2, .inr (7, [.int (Int32.ofInt i_p0_sheets_2_lane), .int (Int32.ofInt i_p0_sheets_2_size), .ref a_p0_sheets_2_cells])), (a_p0_sheets_2_cells, .inl (G 1, 40, .inl (zA v_p0_sheets_2_cells))), (a_p0_sheets_3, .inr (7, [.int (Int32.ofInt i_p0_sheets_3_lane), .int (Int32.ofInt i_p0_sheets_3_size), .ref a_p0_sheets_3_cells])), (a_p0_sheets_3_cells, .inl (G 1, 40, .inl (zA v_p0_sheets_3_cells)))] sz) := by
  refine Met.ofW (cc := cX11_lay) (maxL := 6) (ret := (some .int)) (by decide) rfl ?_
  intro p e s m args below meth c s₁ B hml hv
  obtain ⟨rfl, hsz, hP, hK, hD0⟩ := hv
  have hx := B.exec
  have hb := B.bytes
  have hr := B.returns
  have hts := atoms_spec (ws := wsX11_lay) B.pre
  have hown : s.vm.findClass RX11 = some m.cls := findClass_of_methodNamed B.named
  have hlocks := B.notSynchronized
  subst hsz
  have hD := hD0.self (sz := s.heap.size)
  generalize hAe : va_A [(a_p0, .inr (11, [.ref a_p0_rules, .ref a_p0_state, .ref a_p0_tape, .ref a_p0_reader, .ref a_p0_kitchen, .ref a_p0_luck, .ref a_p0_plans, .ref a_p0_coups, .ref a_p0_past, .ref a_p0_fairDays, .ref a_p0_images, .ref a_p0_imageHeld, .ref a_p0_sheets, .int (Int32.ofInt i_p0_latestFault), .int (Int32.ofInt i_p0_latestTear)])), (a_p0_sheets, .inl (G 5, 4, .inr (.inr (.inr (.inr (va_up (va_up (va_up (va_up (fun _ => none) 0 (some a_p0_sheets_0)) 1 (some a_p0_sheets_1)) 2 (some a_p0_sheets_2)) 3 (some a_p0_sheets_3))))))), (a_p0_sheets_0, .inr (7, [.int (Int32.ofInt i_p0_sheets_0_lane), .int (Int32.ofInt i_p0_sheets_0_size), .ref a_p0_sheets_0_cells])), (a_p0_sheets_0_cells, .inl (G 1, 40, .inl (zA v_p0_sheets_0_cells))), (a_p0_sheets_1, .inr (7, [.int (Int32.ofInt i_p0_sheets_1_lane), .int (Int32.ofInt i_p0_sheets_1_size), .ref a_p0_sheets_1_cells])), (a_p0_sheets_1_cells, .inl (G 1, 40, .inl (zA v_p0_sheets_1_cells))), (a_p0_sheets_2, .inr (7, [.int (Int32.ofInt i_p0_sheets_2_lane), .int (Int32.ofInt i_p0_sheets_2_size), .ref a_p0_sheets_2_cells])), (a_p0_sheets_2_cells, .inl (G 1, 40, .inl (zA v_p0_sheets_2_cells))), (a_p0_sheets_3, .inr (7, [.int (Int32.ofInt i_p0_sheets_3_lane), .int (Int32.ofInt i_p0_sheets_3_size), .ref a_p0_sheets_3_cells])), (a_p0_sheets_3_cells, .inl (G 1, 40, .inl (zA v_p0_sheets_3_cells)))] s.heap.size = A at hD ⊢
  have hA : ∀ q : Nat, s.heap.size ≤ q → A q := fun q h => by rw [← hAe]; exact Or.inr h
  clear hAe hD0
  have hS : va_S A s.heap s.heap [] := va_S.rf
  have hl := lv_entry ([.ref a_p0, .int (Int32.ofInt x1), .int (Int32.ofInt x2), .int (Int32.ofInt x3)]) (n := 6) (Nat.le_of_ble_eq_true rfl)
  rw [lg_entry_eq]
  generalize (lg_sl ([.ref a_p0, .int (Int32.ofInt x1), .int (Int32.ofInt x2), .int (Int32.ofInt x3)]) ++ List.replicate (6 - (lg_sl ([.ref a_p0, .int (Int32.ofInt x1), .int (Int32.ofInt x2), .int (Int32.ofInt x3)])).length) Slot.unset).toArray = ls at hl ⊢
  have hl : lv_has ls 6 [(0, .ref a_p0), (1, .int (Int32.ofInt x1)), (2, .int (Int32.ofInt x2)), (3, .int (Int32.ofInt x3))] := hl
  refine W_nameQ (fun Q hQ => ?_)
  obtain ⟨H, hH⟩ : ∃ H, H = s.heap := ⟨_, rfl⟩
  replace hS : va_S A s.heap H [] := by rw [hH]; exact hS
  replace hP : va_P D vwCl [(a_p0, .inr (11, [.ref a_p0_rules, .ref a_p0_state, .ref a_p0_tape, .ref a_p0_reader, .ref a_p0_kitchen, .ref a_p0_luck, .ref a_p0_plans, .ref a_p0_coups, .ref a_p0_past, .ref a_p0_fairDays, .ref a_p0_images, .ref a_p0_imageHeld, .ref a_p0_sheets, .int (Int32.ofInt i_p0_latestFault), .int (Int32.ofInt i_p0_latestTear)])), (a_p0_sheets, .inl (G 5, 4, .inr (.inr (.inr (.inr (va_up (va_up (va_up (va_up (fun _ => none) 0 (some a_p0_sheets_0)) 1 (some a_p0_sheets_1)) 2 (some a_p0_sheets_2)) 3 (some a_p0_sheets_3))))))), (a_p0_sheets_0, .inr (7, [.int (Int32.ofInt i_p0_sheets_0_lane), .int (Int32.ofInt i_p0_sheets_0_size), .ref a_p0_sheets_0_cells])), (a_p0_sheets_0_cells, .inl (G 1, 40, .inl (zA v_p0_sheets_0_cells))), (a_p0_sheets_1, .inr (7, [.int (Int32.ofInt i_p0_sheets_1_lane), .int (Int32.ofInt i_p0_sheets_1_size), .ref a_p0_sheets_1_cells])), (a_p0_sheets_1_cells, .inl (G 1, 40, .inl (zA v_p0_sheets_1_cells))), (a_p0_sheets_2, .inr (7, [.int (Int32.ofInt i_p0_sheets_2_lane), .int (Int32.ofInt i_p0_sheets_2_size), .ref a_p0_sheets_2_cells])), (a_p0_sheets_2_cells, .inl (G 1, 40, .inl (zA v_p0_sheets_2_cells))), (a_p0_sheets_3, .inr (7, [.int (Int32.ofInt i_p0_sheets_3_lane), .int (Int32.ofInt i_p0_sheets_3_size), .ref a_p0_sheets_3_cells])), (a_p0_sheets_3_cells, .inl (G 1, 40, .inl (zA v_p0_sheets_3_cells)))] H := by rw [hH]; exact hP
  rw [← hH]
  clear hH
  unfold f_X11_lay at hf
  refine lv_iload_n hx hb dX11_lay_0 rfl (lv_at hl 1 rfl) ?_
  have hq := bd1_s hf
  clear hf
  obtain ⟨z1, hcall, hf⟩ := hq
  refine gcI (ws' := [(a_p0, .inr (11, [.ref a_p0_rules, .ref a_p0_state, .ref a_p0_tape, .ref a_p0_reader, .ref a_p0_kitchen, .ref a_p0_luck, .ref a_p0_plans, .ref a_p0_coups, .ref a_p0_past, .ref a_p0_fairDays, .ref a_p0_images, .ref a_p0_imageHeld, .ref a_p0_sheets, .int (Int32.ofInt i_p0_latestFault), .int (Int32.ofInt i_p0_latestTear)])), (a_p0_sheets, .inl (G 5, 4, .inr (.inr (.inr (.inr (va_up (va_up (va_up (va_up (fun _ => none) 0 (some a_p0_sheets_0)) 1 (some a_p0_sheets_1)) 2 (some a_p0_sheets_2)) 3 (some a_p0_sheets_3))))))), (a_p0_sheets_0, .inr (7, [.int (Int32.ofInt i_p0_sheets_0_lane), .int (Int32.ofInt i_p0_sheets_0_size), .ref a_p0_sheets_0_cells])), (a_p0_sheets_0_cells, .inl (G 1, 40, .inl (zA v_p0_sheets_0_cells))), (a_p0_sheets_1, .inr (7, [.int (Int32.ofInt i_p0_sheets_1_lane), .int (Int32.ofInt i_p0_sheets_1_size), .ref a_p0_sheets_1_cells])), (a_p0_sheets_1_cells, .inl (G 1, 40, .inl (zA v_p0_sheets_1_cells))), (a_p0_sheets_2, .inr (7, [.int (Int32.ofInt i_p0_sheets_2_lane), .int (Int32.ofInt i_p0_sheets_2_size), .ref a_p0_sheets_2_cells])), (a_p0_sheets_2_cells, .inl (G 1, 40, .inl (zA v_p0_sheets_2_cells))), (a_p0_sheets_3, .inr (7, [.int (Int32.ofInt i_p0_sheets_3_lane), .int (Int32.ofInt i_p0_sheets_3_size), .ref a_p0_sheets_3_cells])), (a_p0_sheets_3_cells, .inl (G 1, 40, .inl (zA v_p0_sheets_3_cells)))]) (va_runS (As := [.int (Int32.ofInt x1)]) (rest := []) ⟨hx, hb, hml, hown, hts⟩ (c_X11_isSheet (l := l) (D := D) (G := G) (sz := H.size) (x0 := x1) (r := z1) (hf := hcall)) (va_cwS 1 hts gX11_lay_X11_isSheet rfl rfl rfl (by decide +kernel) ⟨Nat.le_of_ble_eq_true rfl, Nat.le_of_ble_eq_true rfl⟩) (preG_S (hP.sub [] rfl) (hD.sub [] rfl rfl) hK) rfl rfl hl.1 rfl (lv_room (Nat.le_of_ble_eq_true rfl)) dX11_lay_1 ⟨Nat.le_of_ble_eq_true rfl, Nat.le_of_ble_eq_true rfl⟩) hP hD hS hA [] [0, 1, 2, 3, 4, 5, 6, 7, 8, 9] [0, 1, 2, 3, 4, 5, 6, 7, 8, 9] rfl rfl rfl (by decide) rfl rfl rfl (fun H locs hP hD hS => ?_)
  clear hcall
  have hr1 := ck_c hf
  replace hf := ck_r hf
  refine lv_if_ne (tgt := 9) hx hb dX11_lay_4 (by decide) (fun cc => ?_) (fun cc => ?_)
  ·
    replace hf := ite_f (fun h9 => cc ((z_eq0 hr1).mpr h9)) hf
    clear cc
    refine lv_aload_n hx hb dX11_lay_9 rfl (lv_at hl 0 rfl) ?_
    refine va_get (D := D) (ci := 11) (v := .ref a_p0_sheets) (C := RX11) (T := TX11) (N := 15) hx hb hts inX11_lay_X11 hown hK hP 0 rfl rfl 12 (by decide) (hts _ mwX11_lay_1) (fun _ h9 => h9) rfl dX11_lay_10 ?_
    refine lv_iload_n hx hb dX11_lay_13 rfl (lv_at hl 1 rfl) ?_
    have hc := ck_c hf
    replace hf := ck_r hf
    refine va_aldq hx hb hK hP 1 5 rfl rfl (z_ix_in hc) dX11_lay_14 ?_
    clear hc
    rcases Decidable.em (x1 = (0 : Int)) with cc | cc
    ·
      replace hf := ite_t cc hf
      refine W.eq (g2 := F0 m 15 ls [.ref a_p0_sheets_0]) (by rw [cc]; rfl) ?_
      clear cc
      refine lv_astore (lv' := [(4, .ref a_p0_sheets_0), (0, .ref a_p0), (1, .int (Int32.ofInt x1)), (2, .int (Int32.ofInt x2)), (3, .int (Int32.ofInt x3))]) hx hb dX11_lay_15 hl (by decide) rfl (fun ls hl => ?_)
      refine lv_aload hx hb dX11_lay_17 (lv_at hl 0 rfl) ?_
      refine lv_aload hx hb dX11_lay_19 (lv_at hl 0 rfl) ?_
      refine va_get (D := D) (ci := 7) (v := .int (Int32.ofInt i_p0_sheets_0_lane)) (C := RX7) (T := TX7) (N := 3) hx hb hts inX11_lay_X7 hown hK hP 2 rfl rfl 0 (by decide) (hts _ mwX11_lay_3) (fun _ h9 => h9) rfl dX11_lay_21 ?_
      refine lv_iload_n hx hb dX11_lay_24 rfl (lv_at hl 3 rfl) ?_
      have hq := bd1_s hf
      clear hf
      obtain ⟨z3, hcall, hf⟩ := hq
      refine gcI (ws' := [(a_p0, .inr (11, [.ref a_p0_rules, .ref a_p0_state, .ref a_p0_tape, .ref a_p0_reader, .ref a_p0_kitchen, .ref a_p0_luck, .ref a_p0_plans, .ref a_p0_coups, .ref a_p0_past, .ref a_p0_fairDays, .ref a_p0_images, .ref a_p0_imageHeld, .ref a_p0_sheets, .int (Int32.ofInt i_p0_latestFault), .int (Int32.ofInt i_p0_latestTear)])), (a_p0_sheets, .inl (G 5, 4, .inr (.inr (.inr (.inr (va_up (va_up (va_up (va_up (fun _ => none) 0 (some a_p0_sheets_0)) 1 (some a_p0_sheets_1)) 2 (some a_p0_sheets_2)) 3 (some a_p0_sheets_3))))))), (a_p0_sheets_0, .inr (7, [.int (Int32.ofInt i_p0_sheets_0_lane), .int (Int32.ofInt i_p0_sheets_0_size), .ref a_p0_sheets_0_cells])), (a_p0_sheets_0_cells, .inl (G 1, 40, .inl (zA v_p0_sheets_0_cells))), (a_p0_sheets_1, .inr (7, [.int (Int32.ofInt i_p0_sheets_1_lane), .int (Int32.ofInt i_p0_sheets_1_size), .ref a_p0_sheets_1_cells])), (a_p0_sheets_1_cells, .inl (G 1, 40, .inl (zA v_p0_sheets_1_cells))), (a_p0_sheets_2, .inr (7, [.int (Int32.ofInt i_p0_sheets_2_lane), .int (Int32.ofInt i_p0_sheets_2_size), .ref a_p0_sheets_2_cells])), (a_p0_sheets_2_cells, .inl (G 1, 40, .inl (zA v_p0_sheets_2_cells))), (a_p0_sheets_3, .inr (7, [.int (Int32.ofInt i_p0_sheets_3_lane), .int (Int32.ofInt i_p0_sheets_3_size), .ref a_p0_sheets_3_cells])), (a_p0_sheets_3_cells, .inl (G 1, 40, .inl (zA v_p0_sheets_3_cells)))]) (va_runV (As := [.int (Int32.ofInt i_p0_sheets_0_lane), .int (Int32.ofInt x2)]) (rest := []) ⟨hx, hb, hml, hown, hts⟩ (c_X7_faultAt (l := l) (D := D) (G := G) (sz := H.size) (a_p0 := a_p0_sheets_0) (a_p0_cells := a_p0_sheets_0_cells) (i_p0_lane := i_p0_sheets_0_lane) (i_p0_size := i_p0_sheets_0_size) (x1 := i_p0_sheets_0_lane) (x2 := x2) (r := z3) (hf := hcall)) (cwV 2 hts gX11_lay_X7_faultAt rfl rfl rfl (by decide +kernel) ⟨Nat.le_of_ble_eq_true rfl, Nat.le_of_ble_eq_true rfl⟩) (preG_V (ci := 7) (hP.sub [2] rfl) (hD.sub [2] rfl rfl) hK rfl rfl) rfl rfl hl.1 rfl (lv_room (Nat.le_of_ble_eq_true rfl)) dX11_lay_25 ⟨Nat.le_of_ble_eq_true rfl, Nat.le_of_ble_eq_true rfl⟩) hP hD hS hA [2] [0, 1, 3, 4, 5, 6, 7, 8, 9] [0, 1, 9, 2, 3, 4, 5, 6, 7, 8] rfl rfl rfl (by decide) rfl rfl rfl (fun H locs hP hD hS => ?_)
      clear hcall
      refine z_topi (fun z4 ez => ?_)
      replace hf := bnd_s hf ez
      clear ez
      refine lv_istore (lv' := [(5, .int (Int32.ofInt z4)), (4, .ref a_p0_sheets_0), (0, .ref a_p0), (1, .int (Int32.ofInt x1)), (2, .int (Int32.ofInt x2)), (3, .int (Int32.ofInt x3))]) hx hb dX11_lay_28 hl (by decide) rfl (fun ls hl => ?_)
      refine lv_iload hx hb dX11_lay_30 (lv_at hl 0 rfl) ?_
      have hr4 := ck_c hf
      replace hf := ck_r hf
      refine lv_if_eq (tgt := 41) hx hb dX11_lay_32 (by decide) (fun cc => ?_) (fun cc => ?_)
      ·
        replace hf := ite_t ((z_eq0 hr4).mp cc) hf
        clear cc
        refine lv_aload hx hb dX11_lay_41 (lv_at hl 1 rfl) ?_
        refine lv_iload_n hx hb dX11_lay_43 rfl (lv_at hl 4 rfl) ?_
        refine lv_iload_n hx hb dX11_lay_44 rfl (lv_at hl 5 rfl) ?_
        have hq := bd1_s hf
        clear hf
        obtain ⟨w6, hcall, hf⟩ := hq
        refine gcV (ws' := [(a_p0, .inr (11, [.ref a_p0_rules, .ref a_p0_state, .ref a_p0_tape, .ref a_p0_reader, .ref a_p0_kitchen, .ref a_p0_luck, .ref a_p0_plans, .ref a_p0_coups, .ref a_p0_past, .ref a_p0_fairDays, .ref a_p0_images, .ref a_p0_imageHeld, .ref a_p0_sheets, .int (Int32.ofInt i_p0_latestFault), .int (Int32.ofInt i_p0_latestTear)])), (a_p0_sheets, .inl (G 5, 4, .inr (.inr (.inr (.inr (va_up (va_up (va_up (va_up (fun _ => none) 0 (some a_p0_sheets_0)) 1 (some a_p0_sheets_1)) 2 (some a_p0_sheets_2)) 3 (some a_p0_sheets_3))))))), (a_p0_sheets_0, .inr (7, [.int (Int32.ofInt i_p0_sheets_0_lane), .int (Int32.ofInt i_p0_sheets_0_size), .ref a_p0_sheets_0_cells])), (a_p0_sheets_0_cells, .inl (G 1, 40, .inl (zA w6))), (a_p0_sheets_1, .inr (7, [.int (Int32.ofInt i_p0_sheets_1_lane), .int (Int32.ofInt i_p0_sheets_1_size), .ref a_p0_sheets_1_cells])), (a_p0_sheets_1_cells, .inl (G 1, 40, .inl (zA v_p0_sheets_1_cells))), (a_p0_sheets_2, .inr (7, [.int (Int32.ofInt i_p0_sheets_2_lane), .int (Int32.ofInt i_p0_sheets_2_size), .ref a_p0_sheets_2_cells])), (a_p0_sheets_2_cells, .inl (G 1, 40, .inl (zA v_p0_sheets_2_cells))), (a_p0_sheets_3, .inr (7, [.int (Int32.ofInt i_p0_sheets_3_lane), .int (Int32.ofInt i_p0_sheets_3_size), .ref a_p0_sheets_3_cells])), (a_p0_sheets_3_cells, .inl (G 1, 40, .inl (zA v_p0_sheets_3_cells)))]) (va_runV (As := [.int (Int32.ofInt x2), .int (Int32.ofInt x3)]) (rest := []) ⟨hx, hb, hml, hown, hts⟩ (c_X7_put (l := l) (D := D) (G := G) (sz := H.size) (a_p0 := a_p0_sheets_0) (a_p0_cells := a_p0_sheets_0_cells) (i_p0_lane := i_p0_sheets_0_lane) (i_p0_size := i_p0_sheets_0_size) (v_p0_cells := v_p0_sheets_0_cells) (x1 := x2) (x2 := x3) (o_v_p0_cells := w6) (hf := hcall)) (cwV 2 hts gX11_lay_X7_put rfl rfl rfl (by decide +kernel) ⟨Nat.le_of_ble_eq_true rfl, Nat.le_of_ble_eq_true rfl⟩) (preG_V (ci := 7) (hP.sub [2, 3] rfl) (hD.sub [2, 3] rfl rfl) hK rfl rfl) rfl rfl hl.1 rfl (lv_room (Nat.le_of_ble_eq_true rfl)) dX11_lay_45 ⟨Nat.le_of_ble_eq_true rfl, Nat.le_of_ble_eq_true rfl⟩) hP hD hS hA [2, 3] [0, 1, 4, 5, 6, 7, 8, 9] [0, 1, 8, 9, 2, 3, 4, 5, 6, 7] rfl rfl rfl (by decide) rfl rfl rfl (fun H locs hP hD hS => ?_)
        clear hcall
        refine lv_iconst (v := Int32.ofInt (1 : Int)) hx hb dX11_lay_48 (by decide) ?_
        obtain ⟨rfl, rfl, rfl, rfl, rfl⟩ := ou5 hf
        rw [hQ]
        exact W.iret hx hb hr (fun t ht hW => ⟨⟨_, (), rfl, rfl, by rw [ht]; exact hP, va_K.moved hW.alike hK, hD⟩, hS.F ht⟩) hS.2.2 dX11_lay_49
      ·
        replace hf := ite_f (fun h9 => cc ((z_eq0 hr4).mpr h9)) hf
        clear cc
        refine lv_bipush (v := Int32.ofInt (-10 : Int)) hx hb dX11_lay_35 (by decide) ?_
        refine lv_iload hx hb dX11_lay_37 (lv_at hl 0 rfl) ?_
        refine lv_isub hx hb dX11_lay_39 (z_ci (Int32.ofInt_sub (-10 : Int) z4) ?_)
        obtain ⟨rfl, rfl, rfl, rfl, rfl⟩ := ou5 hf
        rw [hQ]
        exact W.iret hx hb hr (fun t ht hW => ⟨⟨_, (), rfl, rfl, by rw [ht]; exact hP, va_K.moved hW.alike hK, hD⟩, hS.F ht⟩) hS.2.2 dX11_lay_40
    replace hf := ite_f cc hf
    clear cc
    rcases Decidable.em (x1 = (1 : Int)) with cc | cc
    ·
      replace hf := ite_t cc hf
      refine W.eq (g2 := F0 m 15 ls [.ref a_p0_sheets_1]) (by rw [cc]; rfl) ?_
      clear cc
      refine lv_astore (lv' := [(4, .ref a_p0_sheets_1), (0, .ref a_p0), (1, .int (Int32.ofInt x1)), (2, .int (Int32.ofInt x2)), (3, .int (Int32.ofInt x3))]) hx hb dX11_lay_15 hl (by decide) rfl (fun ls hl => ?_)
      refine lv_aload hx hb dX11_lay_17 (lv_at hl 0 rfl) ?_
      refine lv_aload hx hb dX11_lay_19 (lv_at hl 0 rfl) ?_
      refine va_get (D := D) (ci := 7) (v := .int (Int32.ofInt i_p0_sheets_1_lane)) (C := RX7) (T := TX7) (N := 3) hx hb hts inX11_lay_X7 hown hK hP 4 rfl rfl 0 (by decide) (hts _ mwX11_lay_3) (fun _ h9 => h9) rfl dX11_lay_21 ?_
      refine lv_iload_n hx hb dX11_lay_24 rfl (lv_at hl 3 rfl) ?_
      have hq := bd1_s hf
      clear hf
      obtain ⟨z7, hcall, hf⟩ := hq
      refine gcI (ws' := [(a_p0, .inr (11, [.ref a_p0_rules, .ref a_p0_state, .ref a_p0_tape, .ref a_p0_reader, .ref a_p0_kitchen, .ref a_p0_luck, .ref a_p0_plans, .ref a_p0_coups, .ref a_p0_past, .ref a_p0_fairDays, .ref a_p0_images, .ref a_p0_imageHeld, .ref a_p0_sheets, .int (Int32.ofInt i_p0_latestFault), .int (Int32.ofInt i_p0_latestTear)])), (a_p0_sheets, .inl (G 5, 4, .inr (.inr (.inr (.inr (va_up (va_up (va_up (va_up (fun _ => none) 0 (some a_p0_sheets_0)) 1 (some a_p0_sheets_1)) 2 (some a_p0_sheets_2)) 3 (some a_p0_sheets_3))))))), (a_p0_sheets_0, .inr (7, [.int (Int32.ofInt i_p0_sheets_0_lane), .int (Int32.ofInt i_p0_sheets_0_size), .ref a_p0_sheets_0_cells])), (a_p0_sheets_0_cells, .inl (G 1, 40, .inl (zA v_p0_sheets_0_cells))), (a_p0_sheets_1, .inr (7, [.int (Int32.ofInt i_p0_sheets_1_lane), .int (Int32.ofInt i_p0_sheets_1_size), .ref a_p0_sheets_1_cells])), (a_p0_sheets_1_cells, .inl (G 1, 40, .inl (zA v_p0_sheets_1_cells))), (a_p0_sheets_2, .inr (7, [.int (Int32.ofInt i_p0_sheets_2_lane), .int (Int32.ofInt i_p0_sheets_2_size), .ref a_p0_sheets_2_cells])), (a_p0_sheets_2_cells, .inl (G 1, 40, .inl (zA v_p0_sheets_2_cells))), (a_p0_sheets_3, .inr (7, [.int (Int32.ofInt i_p0_sheets_3_lane), .int (Int32.ofInt i_p0_sheets_3_size), .ref a_p0_sheets_3_cells])), (a_p0_sheets_3_cells, .inl (G 1, 40, .inl (zA v_p0_sheets_3_cells)))]) (va_runV (As := [.int (Int32.ofInt i_p0_sheets_1_lane), .int (Int32.ofInt x2)]) (rest := []) ⟨hx, hb, hml, hown, hts⟩ (c_X7_faultAt (l := l) (D := D) (G := G) (sz := H.size) (a_p0 := a_p0_sheets_1) (a_p0_cells := a_p0_sheets_1_cells) (i_p0_lane := i_p0_sheets_1_lane) (i_p0_size := i_p0_sheets_1_size) (x1 := i_p0_sheets_1_lane) (x2 := x2) (r := z7) (hf := hcall)) (cwV 2 hts gX11_lay_X7_faultAt rfl rfl rfl (by decide +kernel) ⟨Nat.le_of_ble_eq_true rfl, Nat.le_of_ble_eq_true rfl⟩) (preG_V (ci := 7) (hP.sub [4] rfl) (hD.sub [4] rfl rfl) hK rfl rfl) rfl rfl hl.1 rfl (lv_room (Nat.le_of_ble_eq_true rfl)) dX11_lay_25 ⟨Nat.le_of_ble_eq_true rfl, Nat.le_of_ble_eq_true rfl⟩) hP hD hS hA [4] [0, 1, 2, 3, 5, 6, 7, 8, 9] [0, 1, 2, 3, 9, 4, 5, 6, 7, 8] rfl rfl rfl (by decide) rfl rfl rfl (fun H locs hP hD hS => ?_)
      clear hcall
      refine z_topi (fun z8 ez => ?_)
      replace hf := bnd_s hf ez
      clear ez
      refine lv_istore (lv' := [(5, .int (Int32.ofInt z8)), (4, .ref a_p0_sheets_1), (0, .ref a_p0), (1, .int (Int32.ofInt x1)), (2, .int (Int32.ofInt x2)), (3, .int (Int32.ofInt x3))]) hx hb dX11_lay_28 hl (by decide) rfl (fun ls hl => ?_)
      refine lv_iload hx hb dX11_lay_30 (lv_at hl 0 rfl) ?_
      have hr8 := ck_c hf
      replace hf := ck_r hf
      refine lv_if_eq (tgt := 41) hx hb dX11_lay_32 (by decide) (fun cc => ?_) (fun cc => ?_)
      ·
        replace hf := ite_t ((z_eq0 hr8).mp cc) hf
        clear cc
        refine lv_aload hx hb dX11_lay_41 (lv_at hl 1 rfl) ?_
        refine lv_iload_n hx hb dX11_lay_43 rfl (lv_at hl 4 rfl) ?_
        refine lv_iload_n hx hb dX11_lay_44 rfl (lv_at hl 5 rfl) ?_
        have hq := bd1_s hf
        clear hf
        obtain ⟨w10, hcall, hf⟩ := hq
        refine gcV (ws' := [(a_p0, .inr (11, [.ref a_p0_rules, .ref a_p0_state, .ref a_p0_tape, .ref a_p0_reader, .ref a_p0_kitchen, .ref a_p0_luck, .ref a_p0_plans, .ref a_p0_coups, .ref a_p0_past, .ref a_p0_fairDays, .ref a_p0_images, .ref a_p0_imageHeld, .ref a_p0_sheets, .int (Int32.ofInt i_p0_latestFault), .int (Int32.ofInt i_p0_latestTear)])), (a_p0_sheets, .inl (G 5, 4, .inr (.inr (.inr (.inr (va_up (va_up (va_up (va_up (fun _ => none) 0 (some a_p0_sheets_0)) 1 (some a_p0_sheets_1)) 2 (some a_p0_sheets_2)) 3 (some a_p0_sheets_3))))))), (a_p0_sheets_0, .inr (7, [.int (Int32.ofInt i_p0_sheets_0_lane), .int (Int32.ofInt i_p0_sheets_0_size), .ref a_p0_sheets_0_cells])), (a_p0_sheets_0_cells, .inl (G 1, 40, .inl (zA v_p0_sheets_0_cells))), (a_p0_sheets_1, .inr (7, [.int (Int32.ofInt i_p0_sheets_1_lane), .int (Int32.ofInt i_p0_sheets_1_size), .ref a_p0_sheets_1_cells])), (a_p0_sheets_1_cells, .inl (G 1, 40, .inl (zA w10))), (a_p0_sheets_2, .inr (7, [.int (Int32.ofInt i_p0_sheets_2_lane), .int (Int32.ofInt i_p0_sheets_2_size), .ref a_p0_sheets_2_cells])), (a_p0_sheets_2_cells, .inl (G 1, 40, .inl (zA v_p0_sheets_2_cells))), (a_p0_sheets_3, .inr (7, [.int (Int32.ofInt i_p0_sheets_3_lane), .int (Int32.ofInt i_p0_sheets_3_size), .ref a_p0_sheets_3_cells])), (a_p0_sheets_3_cells, .inl (G 1, 40, .inl (zA v_p0_sheets_3_cells)))]) (va_runV (As := [.int (Int32.ofInt x2), .int (Int32.ofInt x3)]) (rest := []) ⟨hx, hb, hml, hown, hts⟩ (c_X7_put (l := l) (D := D) (G := G) (sz := H.size) (a_p0 := a_p0_sheets_1) (a_p0_cells := a_p0_sheets_1_cells) (i_p0_lane := i_p0_sheets_1_lane) (i_p0_size := i_p0_sheets_1_size) (v_p0_cells := v_p0_sheets_1_cells) (x1 := x2) (x2 := x3) (o_v_p0_cells := w10) (hf := hcall)) (cwV 2 hts gX11_lay_X7_put rfl rfl rfl (by decide +kernel) ⟨Nat.le_of_ble_eq_true rfl, Nat.le_of_ble_eq_true rfl⟩) (preG_V (ci := 7) (hP.sub [4, 5] rfl) (hD.sub [4, 5] rfl rfl) hK rfl rfl) rfl rfl hl.1 rfl (lv_room (Nat.le_of_ble_eq_true rfl)) dX11_lay_45 ⟨Nat.le_of_ble_eq_true rfl, Nat.le_of_ble_eq_true rfl⟩) hP hD hS hA [4, 5] [0, 1, 2, 3, 6, 7, 8, 9] [0, 1, 2, 3, 8, 9, 4, 5, 6, 7] rfl rfl rfl (by decide) rfl rfl rfl (fun H locs hP hD hS => ?_)
        clear hcall
        refine lv_iconst (v := Int32.ofInt (1 : Int)) hx hb dX11_lay_48 (by decide) ?_
        obtain ⟨rfl, rfl, rfl, rfl, rfl⟩ := ou5 hf
        rw [hQ]
        exact W.iret hx hb hr (fun t ht hW => ⟨⟨_, (), rfl, rfl, by rw [ht]; exact hP, va_K.moved hW.alike hK, hD⟩, hS.F ht⟩) hS.2.2 dX11_lay_49
      ·
        replace hf := ite_f (fun h9 => cc ((z_eq0 hr8).mpr h9)) hf
        clear cc
        refine lv_bipush (v := Int32.ofInt (-10 : Int)) hx hb dX11_lay_35 (by decide) ?_
        refine lv_iload hx hb dX11_lay_37 (lv_at hl 0 rfl) ?_
        refine lv_isub hx hb dX11_lay_39 (z_ci (Int32.ofInt_sub (-10 : Int) z8) ?_)
        obtain ⟨rfl, rfl, rfl, rfl, rfl⟩ := ou5 hf
        rw [hQ]
        exact W.iret hx hb hr (fun t ht hW => ⟨⟨_, (), rfl, rfl, by rw [ht]; exact hP, va_K.moved hW.alike hK, hD⟩, hS.F ht⟩) hS.2.2 dX11_lay_40
    replace hf := ite_f cc hf
    clear cc
    rcases Decidable.em (x1 = (2 : Int)) with cc | cc
    ·
      replace hf := ite_t cc hf
      refine W.eq (g2 := F0 m 15 ls [.ref a_p0_sheets_2]) (by rw [cc]; rfl) ?_
      clear cc
      refine lv_astore (lv' := [(4, .ref a_p0_sheets_2), (0, .ref a_p0), (1, .int (Int32.ofInt x1)), (2, .int (Int32.ofInt x2)), (3, .int (Int32.ofInt x3))]) hx hb dX11_lay_15 hl (by decide) rfl (fun ls hl => ?_)
      refine lv_aload hx hb dX11_lay_17 (lv_at hl 0 rfl) ?_
      refine lv_aload hx hb dX11_lay_19 (lv_at hl 0 rfl) ?_
      refine va_get (D := D) (ci := 7) (v := .int (Int32.ofInt i_p0_sheets_2_lane)) (C := RX7) (T := TX7) (N := 3) hx hb hts inX11_lay_X7 hown hK hP 6 rfl rfl 0 (by decide) (hts _ mwX11_lay_3) (fun _ h9 => h9) rfl dX11_lay_21 ?_
      refine lv_iload_n hx hb dX11_lay_24 rfl (lv_at hl 3 rfl) ?_
      have hq := bd1_s hf
      clear hf
      obtain ⟨z11, hcall, hf⟩ := hq
      refine gcI (ws' := [(a_p0, .inr (11, [.ref a_p0_rules, .ref a_p0_state, .ref a_p0_tape, .ref a_p0_reader, .ref a_p0_kitchen, .ref a_p0_luck, .ref a_p0_plans, .ref a_p0_coups, .ref a_p0_past, .ref a_p0_fairDays, .ref a_p0_images, .ref a_p0_imageHeld, .ref a_p0_sheets, .int (Int32.ofInt i_p0_latestFault), .int (Int32.ofInt i_p0_latestTear)])), (a_p0_sheets, .inl (G 5, 4, .inr (.inr (.inr (.inr (va_up (va_up (va_up (va_up (fun _ => none) 0 (some a_p0_sheets_0)) 1 (some a_p0_sheets_1)) 2 (some a_p0_sheets_2)) 3 (some a_p0_sheets_3))))))), (a_p0_sheets_0, .inr (7, [.int (Int32.ofInt i_p0_sheets_0_lane), .int (Int32.ofInt i_p0_sheets_0_size), .ref a_p0_sheets_0_cells])), (a_p0_sheets_0_cells, .inl (G 1, 40, .inl (zA v_p0_sheets_0_cells))), (a_p0_sheets_1, .inr (7, [.int (Int32.ofInt i_p0_sheets_1_lane), .int (Int32.ofInt i_p0_sheets_1_size), .ref a_p0_sheets_1_cells])), (a_p0_sheets_1_cells, .inl (G 1, 40, .inl (zA v_p0_sheets_1_cells))), (a_p0_sheets_2, .inr (7, [.int (Int32.ofInt i_p0_sheets_2_lane), .int (Int32.ofInt i_p0_sheets_2_size), .ref a_p0_sheets_2_cells])), (a_p0_sheets_2_cells, .inl (G 1, 40, .inl (zA v_p0_sheets_2_cells))), (a_p0_sheets_3, .inr (7, [.int (Int32.ofInt i_p0_sheets_3_lane), .int (Int32.ofInt i_p0_sheets_3_size), .ref a_p0_sheets_3_cells])), (a_p0_sheets_3_cells, .inl (G 1, 40, .inl (zA v_p0_sheets_3_cells)))]) (va_runV (As := [.int (Int32.ofInt i_p0_sheets_2_lane), .int (Int32.ofInt x2)]) (rest := []) ⟨hx, hb, hml, hown, hts⟩ (c_X7_faultAt (l := l) (D := D) (G := G) (sz := H.size) (a_p0 := a_p0_sheets_2) (a_p0_cells := a_p0_sheets_2_cells) (i_p0_lane := i_p0_sheets_2_lane) (i_p0_size := i_p0_sheets_2_size) (x1 := i_p0_sheets_2_lane) (x2 := x2) (r := z11) (hf := hcall)) (cwV 2 hts gX11_lay_X7_faultAt rfl rfl rfl (by decide +kernel) ⟨Nat.le_of_ble_eq_true rfl, Nat.le_of_ble_eq_true rfl⟩) (preG_V (ci := 7) (hP.sub [6] rfl) (hD.sub [6] rfl rfl) hK rfl rfl) rfl rfl hl.1 rfl (lv_room (Nat.le_of_ble_eq_true rfl)) dX11_lay_25 ⟨Nat.le_of_ble_eq_true rfl, Nat.le_of_ble_eq_true rfl⟩) hP hD hS hA [6] [0, 1, 2, 3, 4, 5, 7, 8, 9] [0, 1, 2, 3, 4, 5, 9, 6, 7, 8] rfl rfl rfl (by decide) rfl rfl rfl (fun H locs hP hD hS => ?_)
      clear hcall
      refine z_topi (fun z12 ez => ?_)
      replace hf := bnd_s hf ez
      clear ez
      refine lv_istore (lv' := [(5, .int (Int32.ofInt z12)), (4, .ref a_p0_sheets_2), (0, .ref a_p0), (1, .int (Int32.ofInt x1)), (2, .int (Int32.ofInt x2)), (3, .int (Int32.ofInt x3))]) hx hb dX11_lay_28 hl (by decide) rfl (fun ls hl => ?_)
      refine lv_iload hx hb dX11_lay_30 (lv_at hl 0 rfl) ?_
      have hr12 := ck_c hf
      replace hf := ck_r hf
      refine lv_if_eq (tgt := 41) hx hb dX11_lay_32 (by decide) (fun cc => ?_) (fun cc => ?_)
      ·
        replace hf := ite_t ((z_eq0 hr12).mp cc) hf
        clear cc
        refine lv_aload hx hb dX11_lay_41 (lv_at hl 1 rfl) ?_
        refine lv_iload_n hx hb dX11_lay_43 rfl (lv_at hl 4 rfl) ?_
        refine lv_iload_n hx hb dX11_lay_44 rfl (lv_at hl 5 rfl) ?_
        have hq := bd1_s hf
        clear hf
        obtain ⟨w14, hcall, hf⟩ := hq
        refine gcV (ws' := [(a_p0, .inr (11, [.ref a_p0_rules, .ref a_p0_state, .ref a_p0_tape, .ref a_p0_reader, .ref a_p0_kitchen, .ref a_p0_luck, .ref a_p0_plans, .ref a_p0_coups, .ref a_p0_past, .ref a_p0_fairDays, .ref a_p0_images, .ref a_p0_imageHeld, .ref a_p0_sheets, .int (Int32.ofInt i_p0_latestFault), .int (Int32.ofInt i_p0_latestTear)])), (a_p0_sheets, .inl (G 5, 4, .inr (.inr (.inr (.inr (va_up (va_up (va_up (va_up (fun _ => none) 0 (some a_p0_sheets_0)) 1 (some a_p0_sheets_1)) 2 (some a_p0_sheets_2)) 3 (some a_p0_sheets_3))))))), (a_p0_sheets_0, .inr (7, [.int (Int32.ofInt i_p0_sheets_0_lane), .int (Int32.ofInt i_p0_sheets_0_size), .ref a_p0_sheets_0_cells])), (a_p0_sheets_0_cells, .inl (G 1, 40, .inl (zA v_p0_sheets_0_cells))), (a_p0_sheets_1, .inr (7, [.int (Int32.ofInt i_p0_sheets_1_lane), .int (Int32.ofInt i_p0_sheets_1_size), .ref a_p0_sheets_1_cells])), (a_p0_sheets_1_cells, .inl (G 1, 40, .inl (zA v_p0_sheets_1_cells))), (a_p0_sheets_2, .inr (7, [.int (Int32.ofInt i_p0_sheets_2_lane), .int (Int32.ofInt i_p0_sheets_2_size), .ref a_p0_sheets_2_cells])), (a_p0_sheets_2_cells, .inl (G 1, 40, .inl (zA w14))), (a_p0_sheets_3, .inr (7, [.int (Int32.ofInt i_p0_sheets_3_lane), .int (Int32.ofInt i_p0_sheets_3_size), .ref a_p0_sheets_3_cells])), (a_p0_sheets_3_cells, .inl (G 1, 40, .inl (zA v_p0_sheets_3_cells)))]) (va_runV (As := [.int (Int32.ofInt x2), .int (Int32.ofInt x3)]) (rest := []) ⟨hx, hb, hml, hown, hts⟩ (c_X7_put (l := l) (D := D) (G := G) (sz := H.size) (a_p0 := a_p0_sheets_2) (a_p0_cells := a_p0_sheets_2_cells) (i_p0_lane := i_p0_sheets_2_lane) (i_p0_size := i_p0_sheets_2_size) (v_p0_cells := v_p0_sheets_2_cells) (x1 := x2) (x2 := x3) (o_v_p0_cells := w14) (hf := hcall)) (cwV 2 hts gX11_lay_X7_put rfl rfl rfl (by decide +kernel) ⟨Nat.le_of_ble_eq_true rfl, Nat.le_of_ble_eq_true rfl⟩) (preG_V (ci := 7) (hP.sub [6, 7] rfl) (hD.sub [6, 7] rfl rfl) hK rfl rfl) rfl rfl hl.1 rfl (lv_room (Nat.le_of_ble_eq_true rfl)) dX11_lay_45 ⟨Nat.le_of_ble_eq_true rfl, Nat.le_of_ble_eq_true rfl⟩) hP hD hS hA [6, 7] [0, 1, 2, 3, 4, 5, 8, 9] [0, 1, 2, 3, 4, 5, 8, 9, 6, 7] rfl rfl rfl (by decide) rfl rfl rfl (fun H locs hP hD hS => ?_)
        clear hcall
        refine lv_iconst (v := Int32.ofInt (1 : Int)) hx hb dX11_lay_48 (by decide) ?_
        obtain ⟨rfl, rfl, rfl, rfl, rfl⟩ := ou5 hf
        rw [hQ]
        exact W.iret hx hb hr (fun t ht hW => ⟨⟨_, (), rfl, rfl, by rw [ht]; exact hP, va_K.moved hW.alike hK, hD⟩, hS.F ht⟩) hS.2.2 dX11_lay_49
      ·
        replace hf := ite_f (fun h9 => cc ((z_eq0 hr12).mpr h9)) hf
        clear cc
        refine lv_bipush (v := Int32.ofInt (-10 : Int)) hx hb dX11_lay_35 (by decide) ?_
        refine lv_iload hx hb dX11_lay_37 (lv_at hl 0 rfl) ?_
        refine lv_isub hx hb dX11_lay_39 (z_ci (Int32.ofInt_sub (-10 : Int) z12) ?_)
        obtain ⟨rfl, rfl, rfl, rfl, rfl⟩ := ou5 hf
        rw [hQ]
        exact W.iret hx hb hr (fun t ht hW => ⟨⟨_, (), rfl, rfl, by rw [ht]; exact hP, va_K.moved hW.alike hK, hD⟩, hS.F ht⟩) hS.2.2 dX11_lay_40
    replace hf := ite_f cc hf
    clear cc
    rcases Decidable.em (x1 = (3 : Int)) with cc | cc
    ·
      replace hf := ite_t cc hf
      refine W.eq (g2 := F0 m 15 ls [.ref a_p0_sheets_3]) (by rw [cc]; rfl) ?_
      clear cc
      refine lv_astore (lv' := [(4, .ref a_p0_sheets_3), (0, .ref a_p0), (1, .int (Int32.ofInt x1)), (2, .int (Int32.ofInt x2)), (3, .int (Int32.ofInt x3))]) hx hb dX11_lay_15 hl (by decide) rfl (fun ls hl => ?_)
      refine lv_aload hx hb dX11_lay_17 (lv_at hl 0 rfl) ?_
      refine lv_aload hx hb dX11_lay_19 (lv_at hl 0 rfl) ?_
      refine va_get (D := D) (ci := 7) (v := .int (Int32.ofInt i_p0_sheets_3_lane)) (C := RX7) (T := TX7) (N := 3) hx hb hts inX11_lay_X7 hown hK hP 8 rfl rfl 0 (by decide) (hts _ mwX11_lay_3) (fun _ h9 => h9) rfl dX11_lay_21 ?_
      refine lv_iload_n hx hb dX11_lay_24 rfl (lv_at hl 3 rfl) ?_
      have hq := bd1_s hf
      clear hf
      obtain ⟨z15, hcall, hf⟩ := hq
      refine gcI (ws' := [(a_p0, .inr (11, [.ref a_p0_rules, .ref a_p0_state, .ref a_p0_tape, .ref a_p0_reader, .ref a_p0_kitchen, .ref a_p0_luck, .ref a_p0_plans, .ref a_p0_coups, .ref a_p0_past, .ref a_p0_fairDays, .ref a_p0_images, .ref a_p0_imageHeld, .ref a_p0_sheets, .int (Int32.ofInt i_p0_latestFault), .int (Int32.ofInt i_p0_latestTear)])), (a_p0_sheets, .inl (G 5, 4, .inr (.inr (.inr (.inr (va_up (va_up (va_up (va_up (fun _ => none) 0 (some a_p0_sheets_0)) 1 (some a_p0_sheets_1)) 2 (some a_p0_sheets_2)) 3 (some a_p0_sheets_3))))))), (a_p0_sheets_0, .inr (7, [.int (Int32.ofInt i_p0_sheets_0_lane), .int (Int32.ofInt i_p0_sheets_0_size), .ref a_p0_sheets_0_cells])), (a_p0_sheets_0_cells, .inl (G 1, 40, .inl (zA v_p0_sheets_0_cells))), (a_p0_sheets_1, .inr (7, [.int (Int32.ofInt i_p0_sheets_1_lane), .int (Int32.ofInt i_p0_sheets_1_size), .ref a_p0_sheets_1_cells])), (a_p0_sheets_1_cells, .inl (G 1, 40, .inl (zA v_p0_sheets_1_cells))), (a_p0_sheets_2, .inr (7, [.int (Int32.ofInt i_p0_sheets_2_lane), .int (Int32.ofInt i_p0_sheets_2_size), .ref a_p0_sheets_2_cells])), (a_p0_sheets_2_cells, .inl (G 1, 40, .inl (zA v_p0_sheets_2_cells))), (a_p0_sheets_3, .inr (7, [.int (Int32.ofInt i_p0_sheets_3_lane), .int (Int32.ofInt i_p0_sheets_3_size), .ref a_p0_sheets_3_cells])), (a_p0_sheets_3_cells, .inl (G 1, 40, .inl (zA v_p0_sheets_3_cells)))]) (va_runV (As := [.int (Int32.ofInt i_p0_sheets_3_lane), .int (Int32.ofInt x2)]) (rest := []) ⟨hx, hb, hml, hown, hts⟩ (c_X7_faultAt (l := l) (D := D) (G := G) (sz := H.size) (a_p0 := a_p0_sheets_3) (a_p0_cells := a_p0_sheets_3_cells) (i_p0_lane := i_p0_sheets_3_lane) (i_p0_size := i_p0_sheets_3_size) (x1 := i_p0_sheets_3_lane) (x2 := x2) (r := z15) (hf := hcall)) (cwV 2 hts gX11_lay_X7_faultAt rfl rfl rfl (by decide +kernel) ⟨Nat.le_of_ble_eq_true rfl, Nat.le_of_ble_eq_true rfl⟩) (preG_V (ci := 7) (hP.sub [8] rfl) (hD.sub [8] rfl rfl) hK rfl rfl) rfl rfl hl.1 rfl (lv_room (Nat.le_of_ble_eq_true rfl)) dX11_lay_25 ⟨Nat.le_of_ble_eq_true rfl, Nat.le_of_ble_eq_true rfl⟩) hP hD hS hA [8] [0, 1, 2, 3, 4, 5, 6, 7, 9] [0, 1, 2, 3, 4, 5, 6, 7, 9, 8] rfl rfl rfl (by decide) rfl rfl rfl (fun H locs hP hD hS => ?_)
      clear hcall
      refine z_topi (fun z16 ez => ?_)
      replace hf := bnd_s hf ez
      clear ez
      refine lv_istore (lv' := [(5, .int (Int32.ofInt z16)), (4, .ref a_p0_sheets_3), (0, .ref a_p0), (1, .int (Int32.ofInt x1)), (2, .int (Int32.ofInt x2)), (3, .int (Int32.ofInt x3))]) hx hb dX11_lay_28 hl (by decide) rfl (fun ls hl => ?_)
      refine lv_iload hx hb dX11_lay_30 (lv_at hl 0 rfl) ?_
      have hr16 := ck_c hf
      replace hf := ck_r hf
      refine lv_if_eq (tgt := 41) hx hb dX11_lay_32 (by decide) (fun cc => ?_) (fun cc => ?_)
      ·
        replace hf := ite_t ((z_eq0 hr16).mp cc) hf
        clear cc
        refine lv_aload hx hb dX11_lay_41 (lv_at hl 1 rfl) ?_
        refine lv_iload_n hx hb dX11_lay_43 rfl (lv_at hl 4 rfl) ?_
        refine lv_iload_n hx hb dX11_lay_44 rfl (lv_at hl 5 rfl) ?_
        have hq := bd1_s hf
        clear hf
        obtain ⟨w18, hcall, hf⟩ := hq
        refine gcV (ws' := [(a_p0, .inr (11, [.ref a_p0_rules, .ref a_p0_state, .ref a_p0_tape, .ref a_p0_reader, .ref a_p0_kitchen, .ref a_p0_luck, .ref a_p0_plans, .ref a_p0_coups, .ref a_p0_past, .ref a_p0_fairDays, .ref a_p0_images, .ref a_p0_imageHeld, .ref a_p0_sheets, .int (Int32.ofInt i_p0_latestFault), .int (Int32.ofInt i_p0_latestTear)])), (a_p0_sheets, .inl (G 5, 4, .inr (.inr (.inr (.inr (va_up (va_up (va_up (va_up (fun _ => none) 0 (some a_p0_sheets_0)) 1 (some a_p0_sheets_1)) 2 (some a_p0_sheets_2)) 3 (some a_p0_sheets_3))))))), (a_p0_sheets_0, .inr (7, [.int (Int32.ofInt i_p0_sheets_0_lane), .int (Int32.ofInt i_p0_sheets_0_size), .ref a_p0_sheets_0_cells])), (a_p0_sheets_0_cells, .inl (G 1, 40, .inl (zA v_p0_sheets_0_cells))), (a_p0_sheets_1, .inr (7, [.int (Int32.ofInt i_p0_sheets_1_lane), .int (Int32.ofInt i_p0_sheets_1_size), .ref a_p0_sheets_1_cells])), (a_p0_sheets_1_cells, .inl (G 1, 40, .inl (zA v_p0_sheets_1_cells))), (a_p0_sheets_2, .inr (7, [.int (Int32.ofInt i_p0_sheets_2_lane), .int (Int32.ofInt i_p0_sheets_2_size), .ref a_p0_sheets_2_cells])), (a_p0_sheets_2_cells, .inl (G 1, 40, .inl (zA v_p0_sheets_2_cells))), (a_p0_sheets_3, .inr (7, [.int (Int32.ofInt i_p0_sheets_3_lane), .int (Int32.ofInt i_p0_sheets_3_size), .ref a_p0_sheets_3_cells])), (a_p0_sheets_3_cells, .inl (G 1, 40, .inl (zA w18)))]) (va_runV (As := [.int (Int32.ofInt x2), .int (Int32.ofInt x3)]) (rest := []) ⟨hx, hb, hml, hown, hts⟩ (c_X7_put (l := l) (D := D) (G := G) (sz := H.size) (a_p0 := a_p0_sheets_3) (a_p0_cells := a_p0_sheets_3_cells) (i_p0_lane := i_p0_sheets_3_lane) (i_p0_size := i_p0_sheets_3_size) (v_p0_cells := v_p0_sheets_3_cells) (x1 := x2) (x2 := x3) (o_v_p0_cells := w18) (hf := hcall)) (cwV 2 hts gX11_lay_X7_put rfl rfl rfl (by decide +kernel) ⟨Nat.le_of_ble_eq_true rfl, Nat.le_of_ble_eq_true rfl⟩) (preG_V (ci := 7) (hP.sub [8, 9] rfl) (hD.sub [8, 9] rfl rfl) hK rfl rfl) rfl rfl hl.1 rfl (lv_room (Nat.le_of_ble_eq_true rfl)) dX11_lay_45 ⟨Nat.le_of_ble_eq_true rfl, Nat.le_of_ble_eq_true rfl⟩) hP hD hS hA [8, 9] [0, 1, 2, 3, 4, 5, 6, 7] [0, 1, 2, 3, 4, 5, 6, 7, 8, 9] rfl rfl rfl (by decide) rfl rfl rfl (fun H locs hP hD hS => ?_)
        clear hcall
        refine lv_iconst (v := Int32.ofInt (1 : Int)) hx hb dX11_lay_48 (by decide) ?_
        obtain ⟨rfl, rfl, rfl, rfl, rfl⟩ := ou5 hf
        rw [hQ]
        exact W.iret hx hb hr (fun t ht hW => ⟨⟨_, (), rfl, rfl, by rw [ht]; exact hP, va_K.moved hW.alike hK, hD⟩, hS.F ht⟩) hS.2.2 dX11_lay_49
      ·
        replace hf := ite_f (fun h9 => cc ((z_eq0 hr16).mpr h9)) hf
        clear cc
        refine lv_bipush (v := Int32.ofInt (-10 : Int)) hx hb dX11_lay_35 (by decide) ?_
        refine lv_iload hx hb dX11_lay_37 (lv_at hl 0 rfl) ?_
        refine lv_isub hx hb dX11_lay_39 (z_ci (Int32.ofInt_sub (-10 : Int) z16) ?_)
        obtain ⟨rfl, rfl, rfl, rfl, rfl⟩ := ou5 hf
        rw [hQ]
        exact W.iret hx hb hr (fun t ht hW => ⟨⟨_, (), rfl, rfl, by rw [ht]; exact hP, va_K.moved hW.alike hK, hD⟩, hS.F ht⟩) hS.2.2 dX11_lay_40
    replace hf := ite_f cc hf
    clear cc
    cases hf
  ·
    replace hf := ite_t ((z_eq0 hr1).mp cc) hf
    clear cc
    refine lv_iconst (v := Int32.ofInt (-1 : Int)) hx hb dX11_lay_7 (by decide) ?_
    obtain ⟨rfl, rfl, rfl, rfl, rfl⟩ := ou5 hf
    rw [hQ]
    exact W.iret hx hb hr (fun t ht hW => ⟨⟨_, (), rfl, rfl, by rw [ht]; exact hP, va_K.moved hW.alike hK, hD⟩, hS.F ht⟩) hS.2.2 dX11_lay_8
