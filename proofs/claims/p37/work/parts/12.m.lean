noncomputable def f_X6_hasStir (i_p0_stirs : Int) (x1 : Int) : Option (Int) := (ck (z_r32 x1) (if x1 < (0 : Int) then (some (0 : Int)) else (ck (z_r32 i_p0_stirs) (if i_p0_stirs ≤ x1 then (some (0 : Int)) else (some (1 : Int))))))
abbrev rm_X6_hasStir : Room := { frames := 0, cells := 0, slots := 0, locals := 0 }
theorem inX6_hasStir_X6 : ∀ w ∈ wsX60, w ∈ wsX6_hasStir := by first | exact fun w h => List.mem_cons_of_mem _ (List.mem_append_right _ h) | decide +kernel
theorem mwX6_hasStir_1 : Cond.fieldLink RX6 15 "LadleKings$Rules" "stirs" "I" ∈ wsX6_hasStir := by first | exact List.mem_of_getElem? (i := 1) rfl | decide +kernel
set_option maxHeartbeats 8000000 in
set_option maxRecDepth 100000 in
theorem c_X6_hasStir (l : Launch) (D : va_G) (G : Nat → ClassId) (sz : Nat) (a_p0 : Nat) (a_p0_need : Nat) (a_p0_kind : Nat) (a_p0_first : Nat) (a_p0_second : Nat) (a_p0_after : Nat) (i_p0_seats : Int) (i_p0_stirs : Int) (x1 : Int) (r : Int) (hf : f_X6_hasStir i_p0_stirs x1 = some r) : Met l yX6_hasStir wsX6_hasStir rm_X6_hasStir (pcG D G [.ref a_p0, .int (Int32.ofInt x1)] sz [(a_p0, .inr (6, [.int (Int32.ofInt i_p0_seats), .int (Int32.ofInt i_p0_stirs), .ref a_p0_need, .ref a_p0_kind, .ref a_p0_first, .ref a_p0_second, .ref a_p0_after]))]) (qcI D G (Int32.ofInt r) [(a_p0, .inr (6, [.int (Int32.ofInt i_p0_seats), .int (Int32.ofInt i_p0_stirs), .ref a_p0_need, .ref a_p0_kind, .ref a_p0_first, .ref a_p0_second, .ref a_p0_after]))] (va_A [(a_p0, .inr (6, [.int (Int32.ofInt i_p0_seats), .int (Int32.ofInt i_p0_stirs), .ref a_p0_need, .ref a_p0_kind, .ref a_p0_first, .ref a_p0_second, .ref a_p0_after]))] sz)) 0 0 (va_A [(a_p0, .inr (6, [.int (Int32.ofInt i_p0_seats), .int (Int32.ofInt i_p0_stirs), .ref a_p0_need, .ref a_p0_kind, .ref a_p0_first, .ref a_p0_second, .ref a_p0_after]))] sz) := by
  refine Met.ofW (cc := cX6_hasStir) (maxL := 2) (ret := (some .boolean)) (by decide) rfl ?_
  intro p e s m args below meth c s₁ B hml hv
  obtain ⟨rfl, hsz, hP, hK, hD0⟩ := hv
  have hx := B.exec
  have hb := B.bytes
  have hr := B.returns
  have hts := atoms_spec (ws := wsX6_hasStir) B.pre
  have hown : s.vm.findClass RX6 = some m.cls := findClass_of_methodNamed B.named
  have hlocks := B.notSynchronized
  subst hsz
  have hD := hD0.self (sz := s.heap.size)
  generalize hAe : va_A [(a_p0, .inr (6, [.int (Int32.ofInt i_p0_seats), .int (Int32.ofInt i_p0_stirs), .ref a_p0_need, .ref a_p0_kind, .ref a_p0_first, .ref a_p0_second, .ref a_p0_after]))] s.heap.size = A at hD ⊢
  have hA : ∀ q : Nat, s.heap.size ≤ q → A q := fun q h => by rw [← hAe]; exact Or.inr h
  clear hAe hD0
  have hS : va_S A s.heap s.heap [] := va_S.rf
  have hl := lv_entry ([.ref a_p0, .int (Int32.ofInt x1)]) (n := 2) (Nat.le_of_ble_eq_true rfl)
  rw [lg_entry_eq]
  generalize (lg_sl ([.ref a_p0, .int (Int32.ofInt x1)]) ++ List.replicate (2 - (lg_sl ([.ref a_p0, .int (Int32.ofInt x1)])).length) Slot.unset).toArray = ls at hl ⊢
  have hl : lv_has ls 2 [(0, .ref a_p0), (1, .int (Int32.ofInt x1))] := hl
  refine W_nameQ (fun Q hQ => ?_)
  obtain ⟨H, hH⟩ : ∃ H, H = s.heap := ⟨_, rfl⟩
  replace hS : va_S A s.heap H [] := by rw [hH]; exact hS
  replace hP : va_P D vwCl [(a_p0, .inr (6, [.int (Int32.ofInt i_p0_seats), .int (Int32.ofInt i_p0_stirs), .ref a_p0_need, .ref a_p0_kind, .ref a_p0_first, .ref a_p0_second, .ref a_p0_after]))] H := by rw [hH]; exact hP
  rw [← hH]
  clear hH
  unfold f_X6_hasStir at hf
  refine lv_iload_n hx hb dX6_hasStir_0 rfl (lv_at hl 1 rfl) ?_
  have hr0 := ck_c hf
  replace hf := ck_r hf
  refine lv_if_lt (tgt := 16) hx hb dX6_hasStir_1 (by decide) (fun cc => ?_) (fun cc => ?_)
  ·
    replace hf := ite_t ((z_lt0 hr0).mp cc) hf
    clear cc
    refine lv_iconst (v := Int32.ofInt (0 : Int)) hx hb dX6_hasStir_16 (by decide) ?_
    obtain rfl := ou1 hf
    rw [hQ]
    exact W.zret hx hb hr rfl (fun t ht hW => ⟨⟨_, (), rfl, rfl, by rw [ht]; exact hP, va_K.moved hW.alike hK, hD⟩, hS.F ht⟩) hS.2.2 dX6_hasStir_17
  ·
    replace hf := ite_f (fun h9 => cc ((z_lt0 hr0).mpr h9)) hf
    clear cc
    refine lv_iload_n hx hb dX6_hasStir_4 rfl (lv_at hl 1 rfl) ?_
    refine lv_aload_n hx hb dX6_hasStir_5 rfl (lv_at hl 0 rfl) ?_
    refine va_get (D := D) (ci := 6) (v := .int (Int32.ofInt i_p0_stirs)) (C := RX6) (T := TX6) (N := 7) hx hb hts inX6_hasStir_X6 hown hK hP 0 rfl rfl 1 (by decide) (hts _ mwX6_hasStir_1) (fun _ h9 => h9) rfl dX6_hasStir_6 ?_
    have hr1 := ck_c hf
    replace hf := ck_r hf
    refine lv_icmp_ge (tgt := 16) hx hb dX6_hasStir_9 (by decide) (fun cc => ?_) (fun cc => ?_)
    ·
      replace hf := ite_t ((z_le hr1 hr0).mp cc) hf
      clear cc
      refine lv_iconst (v := Int32.ofInt (0 : Int)) hx hb dX6_hasStir_16 (by decide) ?_
      obtain rfl := ou1 hf
      rw [hQ]
      exact W.zret hx hb hr rfl (fun t ht hW => ⟨⟨_, (), rfl, rfl, by rw [ht]; exact hP, va_K.moved hW.alike hK, hD⟩, hS.F ht⟩) hS.2.2 dX6_hasStir_17
    ·
      replace hf := ite_f (fun h9 => cc ((z_le hr1 hr0).mpr h9)) hf
      clear cc
      refine lv_iconst (v := Int32.ofInt (1 : Int)) hx hb dX6_hasStir_12 (by decide) ?_
      refine lv_goto (tgt := 17) hx hb dX6_hasStir_13 (by decide) ?_
      obtain rfl := ou1 hf
      rw [hQ]
      exact W.zret hx hb hr rfl (fun t ht hW => ⟨⟨_, (), rfl, rfl, by rw [ht]; exact hP, va_K.moved hW.alike hK, hD⟩, hS.F ht⟩) hS.2.2 dX6_hasStir_17

noncomputable def B_X5_tellRow_26 (x1 : Int) (i_p0_kitchen_rules_stirs : Int) (v_p0_kitchen_rules_after : (Int → Int)) (v_p0_kitchen_holders : (Int → Int)) (v_p0_good : (Int → Int)) (x2 : Int) (again26 : Int → Int → Int → (Int → Int) → Option ((Int → Int))) (z4 : Int) (z5 : Int) (z6 : Int) (w7 : (Int → Int)) : Option ((Int → Int)) := (ck (z_r32 z4) (ck (z_r32 x1) (if x1 ≤ z4 then (some w7) else (ck (z_ix ((x1 - (1 : Int)) - z4) 11) (bd1 (f_X5_firstStirInto i_p0_kitchen_rules_stirs v_p0_kitchen_rules_after v_p0_kitchen_holders (v_p0_good ((x1 - (1 : Int)) - z4)) z6 z5 x2) (fun (z11 : Int) => (bnd z11 (fun (z12 : Int) => (bd1 (f_X6_hasStir i_p0_kitchen_rules_stirs z12) (fun (z13 : Int) => (ck (z_r32 z13) (if z13 = (0 : Int) then (some w7) else (ck (z_ix z4 10) (bnd (z_up w7 z4 z12) (fun (w15 : (Int → Int)) => (bd1 (f_X6_placeAfter v_p0_kitchen_rules_after z12 z5) (fun (z16 : Int) => (bnd z16 (fun (z17 : Int) => (bd1 (f_X2_holderOf v_p0_kitchen_holders z6 z17) (fun (z18 : Int) => (bnd z18 (fun (z19 : Int) => (bnd (z4 + (1 : Int)) (fun (z20 : Int) => (again26 z20 z17 z19 w15))))))))))))))))))))))))))
noncomputable def f_X5_tellRow (i_p0_kitchen_rules_stirs : Int) (v_p0_kitchen_rules_after : (Int → Int)) (i_p0_kitchen_state_bone : Int) (i_p0_kitchen_state_king : Int) (v_p0_kitchen_holders : (Int → Int)) (v_p0_good : (Int → Int)) (v_p0_row : (Int → Int)) (x1 : Int) (x2 : Int) : Option ((Int → Int)) := (bnd i_p0_kitchen_state_king (fun (z1 : Int) => (bnd i_p0_kitchen_state_bone (fun (z2 : Int) => (bnd (0 : Int) (fun (z3 : Int) => (lq4 (B_X5_tellRow_26 x1 i_p0_kitchen_rules_stirs v_p0_kitchen_rules_after v_p0_kitchen_holders v_p0_good x2) 1000 z3 z2 z1 v_p0_row)))))))
abbrev rm_X5_tellRow : Room := { frames := 2, cells := 0, slots := 0, locals := 50 }
theorem inX5_tellRow_X5 : ∀ w ∈ wsX50, w ∈ wsX5_tellRow := by first | exact fun w h => List.mem_cons_of_mem _ (List.mem_append_left _ (List.mem_append_left _ (List.mem_append_left _ (List.mem_append_right _ h)))) | decide +kernel
theorem mwX5_tellRow_1 : Cond.fieldLink RX5 19 "LadleKings$Plans" "kitchen" "LLadleKings$Kitchen;" ∈ wsX5_tellRow := by first | exact List.mem_of_getElem? (i := 1) rfl | decide +kernel
theorem inX5_tellRow_X2 : ∀ w ∈ wsX20, w ∈ wsX5_tellRow := by first | exact fun w h => List.mem_cons_of_mem _ (List.mem_append_left _ (List.mem_append_left _ (List.mem_append_right _ h))) | decide +kernel
theorem mwX5_tellRow_3 : Cond.fieldLink RX5 62 "LadleKings$Kitchen" "state" "LLadleKings$State;" ∈ wsX5_tellRow := by first | exact List.mem_of_getElem? (i := 2) rfl | decide +kernel
theorem inX5_tellRow_X8 : ∀ w ∈ wsX80, w ∈ wsX5_tellRow := by first | exact fun w h => List.mem_cons_of_mem _ (List.mem_append_left _ (List.mem_append_right _ h)) | decide +kernel
theorem mwX5_tellRow_5 : Cond.fieldLink RX5 66 "LadleKings$State" "king" "I" ∈ wsX5_tellRow := by first | exact List.mem_of_getElem? (i := 3) rfl | decide +kernel
theorem mwX5_tellRow_6 : Cond.fieldLink RX5 71 "LadleKings$State" "bone" "I" ∈ wsX5_tellRow := by first | exact List.mem_of_getElem? (i := 4) rfl | decide +kernel
theorem mwX5_tellRow_7 : Cond.fieldLink RX5 9 "LadleKings$Plans" "good" "[J" ∈ wsX5_tellRow := by first | exact List.mem_of_getElem? (i := 5) rfl | decide +kernel
theorem mwX5_tellRow_8 : Cond.fieldLink RX5 48 "LadleKings$Kitchen" "rules" "LLadleKings$Rules;" ∈ wsX5_tellRow := by first | exact List.mem_of_getElem? (i := 6) rfl | decide +kernel
theorem hdV_yX6_hasStir_RX6 : yX6_hasStir.cls = RX6 ∧ yX6_hasStir.cls ≠ "java/lang/invoke/MethodHandle" ∧ yX6_hasStir.cls ≠ "java/lang/invoke/VarHandle" ∧ (parseMethodDescriptor yX6_hasStir.desc).map (fun d => d.parameters.length) = some 1 := by decide +kernel
theorem mwX5_tellRow_10 : Cond.fieldLink RX5 15 "LadleKings$Plans" "row" "[I" ∈ wsX5_tellRow := by first | exact List.mem_of_getElem? (i := 7) rfl | decide +kernel
set_option maxHeartbeats 8000000 in
set_option maxRecDepth 100000 in
theorem c_X5_tellRow (l : Launch) (D : va_G) (G : Nat → ClassId) (sz : Nat) (a_p0 : Nat) (a_p0_kitchen : Nat) (a_p0_good : Nat) (a_p0_row : Nat) (a_p0_kitchen_rules : Nat) (a_p0_kitchen_state : Nat) (a_p0_kitchen_places : Nat) (a_p0_kitchen_holders : Nat) (a_p0_kitchen_stirred : Nat) (a_p0_kitchen_rules_need : Nat) (a_p0_kitchen_rules_kind : Nat) (a_p0_kitchen_rules_first : Nat) (a_p0_kitchen_rules_second : Nat) (a_p0_kitchen_rules_after : Nat) (a_p0_kitchen_state_pieces : Nat) (a_p0_kitchen_state_friends : Nat) (a_p0_kitchen_state_spoons : Nat) (a_p0_kitchen_state_eaten : Nat) (a_p0_kitchen_state_seen : Nat) (i_p0_kitchen_rules_seats : Int) (i_p0_kitchen_rules_stirs : Int) (v_p0_kitchen_rules_after : (Int → Int)) (i_p0_kitchen_state_seenDays : Int) (i_p0_kitchen_state_bone : Int) (i_p0_kitchen_state_king : Int) (i_p0_kitchen_state_days : Int) (v_p0_kitchen_holders : (Int → Int)) (v_p0_good : (Int → Int)) (v_p0_row : (Int → Int)) (x1 : Int) (x2 : Int) (o_v_p0_row : (Int → Int)) (hf : f_X5_tellRow i_p0_kitchen_rules_stirs v_p0_kitchen_rules_after i_p0_kitchen_state_bone i_p0_kitchen_state_king v_p0_kitchen_holders v_p0_good v_p0_row x1 x2 = some o_v_p0_row) : Met l yX5_tellRow wsX5_tellRow rm_X5_tellRow (pcG D G [.ref a_p0, .int (Int32.ofInt x1), .int (Int32.ofInt x2)] sz [(a_p0, .inr (5, [.ref a_p0_kitchen, .ref a_p0_good, .ref a_p0_row])), (a_p0_kitchen, .inr (2, [.ref a_p0_kitchen_rules, .ref a_p0_kitchen_state, .ref a_p0_kitchen_places, .ref a_p0_kitchen_holders, .ref a_p0_kitchen_stirred])), (a_p0_kitchen_rules, .inr (6, [.int (Int32.ofInt i_p0_kitchen_rules_seats), .int (Int32.ofInt i_p0_kitchen_rules_stirs), .ref a_p0_kitchen_rules_need, .ref a_p0_kitchen_rules_kind, .ref a_p0_kitchen_rules_first, .ref a_p0_kitchen_rules_second, .ref a_p0_kitchen_rules_after])), (a_p0_kitchen_rules_after, .inl (G 1, 35, .inl (zA v_p0_kitchen_rules_after))), (a_p0_kitchen_state, .inr (8, [.ref a_p0_kitchen_state_pieces, .ref a_p0_kitchen_state_friends, .ref a_p0_kitchen_state_spoons, .ref a_p0_kitchen_state_eaten, .ref a_p0_kitchen_state_seen, .int (Int32.ofInt i_p0_kitchen_state_seenDays), .int (Int32.ofInt i_p0_kitchen_state_bone), .int (Int32.ofInt i_p0_kitchen_state_king), .int (Int32.ofInt i_p0_kitchen_state_days)])), (a_p0_kitchen_holders, .inl (G 1, 49, .inl (zA v_p0_kitchen_holders))), (a_p0_good, .inl (G 2, 11, .inr (.inl (zL v_p0_good)))), (a_p0_row, .inl (G 1, 10, .inl (zA v_p0_row)))]) (qcV D G [(a_p0, .inr (5, [.ref a_p0_kitchen, .ref a_p0_good, .ref a_p0_row])), (a_p0_kitchen, .inr (2, [.ref a_p0_kitchen_rules, .ref a_p0_kitchen_state, .ref a_p0_kitchen_places, .ref a_p0_kitchen_holders, .ref a_p0_kitchen_stirred])), (a_p0_kitchen_rules, .inr (6, [.int (Int32.ofInt i_p0_kitchen_rules_seats), .int (Int32.ofInt i_p0_kitchen_rules_stirs), .ref a_p0_kitchen_rules_need, .ref a_p0_kitchen_rules_kind, .ref a_p0_kitchen_rules_first, .ref a_p0_kitchen_rules_second, .ref a_p0_kitchen_rules_after])), (a_p0_kitchen_rules_after, .inl (G 1, 35, .inl (zA v_p0_kitchen_rules_after))), (a_p0_kitchen_state, .inr (8, [.ref a_p0_kitchen_state_pieces, .ref a_p0_kitchen_state_friends, .ref a_p0_kitchen_state_spoons, .ref a_p0_kitchen_state_eaten, .ref a_p0_kitchen_state_seen, .int (Int32.ofInt i_p0_kitchen_state_seenDays), .int (Int32.ofInt i_p0_kitchen_state_bone), .int (Int32.ofInt i_p0_kitchen_state_king), .int (Int32.ofInt i_p0_kitchen_state_days)])), (a_p0_kitchen_holders, .inl (G 1, 49, .inl (zA v_p0_kitchen_holders))), (a_p0_good, .inl (G 2, 11, .inr (.inl (zL v_p0_good)))), (a_p0_row, .inl (G 1, 10, .inl (zA o_v_p0_row)))] (va_A [(a_p0, .inr (5, [.ref a_p0_kitchen, .ref a_p0_good, .ref a_p0_row])), (a_p0_kitchen, .inr (2, [.ref a_p0_kitchen_rules, .ref a_p0_kitchen_state, .ref a_p0_kitchen_places, .ref a_p0_kitchen_holders, .ref a_p0_kitchen_stirred])), (a_p0_kitchen_rules, .inr (6, [.int (Int32.ofInt i_p0_kitchen_rules_seats), .int (Int32.ofInt i_p0_kitchen_rules_stirs), .ref a_p0_kitchen_rules_need, .ref a_p0_kitchen_rules_kind, .ref a_p0_kitchen_rules_first, .ref a_p0_kitchen_rules_second, .ref a_p0_kitchen_rules_after])), (a_p0_kitchen_rules_after, .inl (G 1, 35, .inl (zA v_p0_kitchen_rules_after))), (a_p0_kitchen_state, .inr (8, [.ref a_p0_kitchen_state_pieces, .ref a_p0_kitchen_state_friends, .ref a_p0_kitchen_state_spoons, .ref a_p0_kitchen_state_eaten, .ref a_p0_kitchen_state_seen, .int (Int32.ofInt i_p0_kitchen_state_seenDays), .int (Int32.ofInt i_p0_kitchen_state_bone), .int (Int32.ofInt i_p0_kitchen_state_king), .int (Int32.ofInt i_p0_kitchen_state_days)])), (a_p0_kitchen_holders, .inl (G 1, 49, .inl (zA v_p0_kitchen_holders))), (a_p0_good, .inl (G 2, 11, .inr (.inl (zL v_p0_good)))), (a_p0_row, .inl (G 1, 10, .inl (zA v_p0_row)))] sz)) 0 0 (va_A [(a_p0, .inr (5, [.ref a_p0_kitchen, .ref a_p0_good, .ref a_p0_row])), (a_p0_kitchen, .inr (2, [.ref a_p0_kitchen_rules, .ref a_p0_kitchen_state, .ref a_p0_kitchen_places, .ref a_p0_kitchen_holders, .ref a_p0_kitchen_stirred])), (a_p0_kitchen_rules, .inr (6, [.int (Int32.ofInt i_p0_kitchen_rules_seats), .int (Int32.ofInt i_p0_kitchen_rules_stirs), .ref a_p0_kitchen_rules_need, .ref a_p0_kitchen_rules_kind, .ref a_p0_kitchen_rules_first, .ref a_p0_kitchen_rules_second, .ref a_p0_kitchen_rules_after])), (a_p0_kitchen_rules_after, .inl (G 1, 35, .inl (zA v_p0_kitchen_rules_after))), (a_p0_kitchen_state, .inr (8, [.ref a_p0_kitchen_state_pieces, .ref a_p0_kitchen_state_friends, .ref a_p0_kitchen_state_spoons, .ref a_p0_kitchen_state_eaten, .ref a_p0_kitchen_state_seen, .int (Int32.ofInt i_p0_kitchen_state_seenDays), .int (Int32.ofInt i_p0_kitchen_state_bone), .int (Int32.ofInt i_p0_kitchen_state_king), .int (Int32.ofInt i_p0_kitchen_state_days)])), (a_p0_kitchen_holders, .inl (G 1, 49, .inl (zA v_p0_kitchen_holders))), (a_p0_good, .inl (G 2, 11, .inr (.inl (zL v_p0_good)))), (a_p0_row, .inl (G 1, 10, .inl (zA v_p0_row)))] sz) := by
  refine Met.ofW (cc := cX5_tellRow) (maxL := 7) (ret := none) (by decide) rfl ?_
  intro p e s m args below meth c s₁ B hml hv
  obtain ⟨rfl, hsz, hP, hK, hD0⟩ := hv
  have hx := B.exec
  have hb := B.bytes
  have hr := B.returns
  have hts := atoms_spec (ws := wsX5_tellRow) B.pre
  have hown : s.vm.findClass RX5 = some m.cls := findClass_of_methodNamed B.named
  have hlocks := B.notSynchronized
  subst hsz
  have hD := hD0.self (sz := s.heap.size)
  generalize hAe : va_A [(a_p0, .inr (5, [.ref a_p0_kitchen, .ref a_p0_good, .ref a_p0_row])), (a_p0_kitchen, .inr (2, [.ref a_p0_kitchen_rules, .ref a_p0_kitchen_state, .ref a_p0_kitchen_places, .ref a_p0_kitchen_holders, .ref a_p0_kitchen_stirred])), (a_p0_kitchen_rules, .inr (6, [.int (Int32.ofInt i_p0_kitchen_rules_seats), .int (Int32.ofInt i_p0_kitchen_rules_stirs), .ref a_p0_kitchen_rules_need, .ref a_p0_kitchen_rules_kind, .ref a_p0_kitchen_rules_first, .ref a_p0_kitchen_rules_second, .ref a_p0_kitchen_rules_after])), (a_p0_kitchen_rules_after, .inl (G 1, 35, .inl (zA v_p0_kitchen_rules_after))), (a_p0_kitchen_state, .inr (8, [.ref a_p0_kitchen_state_pieces, .ref a_p0_kitchen_state_friends, .ref a_p0_kitchen_state_spoons, .ref a_p0_kitchen_state_eaten, .ref a_p0_kitchen_state_seen, .int (Int32.ofInt i_p0_kitchen_state_seenDays), .int (Int32.ofInt i_p0_kitchen_state_bone), .int (Int32.ofInt i_p0_kitchen_state_king), .int (Int32.ofInt i_p0_kitchen_state_days)])), (a_p0_kitchen_holders, .inl (G 1, 49, .inl (zA v_p0_kitchen_holders))), (a_p0_good, .inl (G 2, 11, .inr (.inl (zL v_p0_good)))), (a_p0_row, .inl (G 1, 10, .inl (zA v_p0_row)))] s.heap.size = A at hD ⊢
  have hA : ∀ q : Nat, s.heap.size ≤ q → A q := fun q h => by rw [← hAe]; exact Or.inr h
  clear hAe hD0
  have hS : va_S A s.heap s.heap [] := va_S.rf
  have hl := lv_entry ([.ref a_p0, .int (Int32.ofInt x1), .int (Int32.ofInt x2)]) (n := 7) (Nat.le_of_ble_eq_true rfl)
  rw [lg_entry_eq]
  generalize (lg_sl ([.ref a_p0, .int (Int32.ofInt x1), .int (Int32.ofInt x2)]) ++ List.replicate (7 - (lg_sl ([.ref a_p0, .int (Int32.ofInt x1), .int (Int32.ofInt x2)])).length) Slot.unset).toArray = ls at hl ⊢
  have hl : lv_has ls 7 [(0, .ref a_p0), (1, .int (Int32.ofInt x1)), (2, .int (Int32.ofInt x2))] := hl
  refine W_nameQ (fun Q hQ => ?_)
  obtain ⟨H, hH⟩ : ∃ H, H = s.heap := ⟨_, rfl⟩
  replace hS : va_S A s.heap H [] := by rw [hH]; exact hS
  replace hP : va_P D vwCl [(a_p0, .inr (5, [.ref a_p0_kitchen, .ref a_p0_good, .ref a_p0_row])), (a_p0_kitchen, .inr (2, [.ref a_p0_kitchen_rules, .ref a_p0_kitchen_state, .ref a_p0_kitchen_places, .ref a_p0_kitchen_holders, .ref a_p0_kitchen_stirred])), (a_p0_kitchen_rules, .inr (6, [.int (Int32.ofInt i_p0_kitchen_rules_seats), .int (Int32.ofInt i_p0_kitchen_rules_stirs), .ref a_p0_kitchen_rules_need, .ref a_p0_kitchen_rules_kind, .ref a_p0_kitchen_rules_first, .ref a_p0_kitchen_rules_second, .ref a_p0_kitchen_rules_after])), (a_p0_kitchen_rules_after, .inl (G 1, 35, .inl (zA v_p0_kitchen_rules_after))), (a_p0_kitchen_state, .inr (8, [.ref a_p0_kitchen_state_pieces, .ref a_p0_kitchen_state_friends, .ref a_p0_kitchen_state_spoons, .ref a_p0_kitchen_state_eaten, .ref a_p0_kitchen_state_seen, .int (Int32.ofInt i_p0_kitchen_state_seenDays), .int (Int32.ofInt i_p0_kitchen_state_bone), .int (Int32.ofInt i_p0_kitchen_state_king), .int (Int32.ofInt i_p0_kitchen_state_days)])), (a_p0_kitchen_holders, .inl (G 1, 49, .inl (zA v_p0_kitchen_holders))), (a_p0_good, .inl (G 2, 11, .inr (.inl (zL v_p0_good)))), (a_p0_row, .inl (G 1, 10, .inl (zA v_p0_row)))] H := by rw [hH]; exact hP
  rw [← hH]
  clear hH
  unfold f_X5_tellRow at hf
  refine lv_aload_n hx hb dX5_tellRow_0 rfl (lv_at hl 0 rfl) ?_
  refine va_get (D := D) (ci := 5) (v := .ref a_p0_kitchen) (C := RX5) (T := TX5) (N := 3) hx hb hts inX5_tellRow_X5 hown hK hP 0 rfl rfl 0 (by decide) (hts _ mwX5_tellRow_1) (fun _ h9 => h9) rfl dX5_tellRow_1 ?_
  refine va_get (D := D) (ci := 2) (v := .ref a_p0_kitchen_state) (C := RX2) (T := TX2) (N := 5) hx hb hts inX5_tellRow_X2 hown hK hP 1 rfl rfl 1 (by decide) (hts _ mwX5_tellRow_3) (fun _ h9 => h9) rfl dX5_tellRow_4 ?_
  refine va_get (D := D) (ci := 8) (v := .int (Int32.ofInt i_p0_kitchen_state_king)) (C := RX8) (T := TX8) (N := 9) hx hb hts inX5_tellRow_X8 hown hK hP 4 rfl rfl 7 (by decide) (hts _ mwX5_tellRow_5) (fun _ h9 => h9) rfl dX5_tellRow_7 ?_
  refine z_topi (fun z1 ez => ?_)
  replace hf := bnd_s hf ez
  clear ez
  refine lv_istore_n (lv' := [(3, .int (Int32.ofInt z1)), (0, .ref a_p0), (1, .int (Int32.ofInt x1)), (2, .int (Int32.ofInt x2))]) hx hb dX5_tellRow_10 rfl hl (by decide) rfl (fun ls hl => ?_)
  refine lv_aload_n hx hb dX5_tellRow_11 rfl (lv_at hl 1 rfl) ?_
  refine va_get (D := D) (ci := 5) (v := .ref a_p0_kitchen) (C := RX5) (T := TX5) (N := 3) hx hb hts inX5_tellRow_X5 hown hK hP 0 rfl rfl 0 (by decide) (hts _ mwX5_tellRow_1) (fun _ h9 => h9) rfl dX5_tellRow_12 ?_
  refine va_get (D := D) (ci := 2) (v := .ref a_p0_kitchen_state) (C := RX2) (T := TX2) (N := 5) hx hb hts inX5_tellRow_X2 hown hK hP 1 rfl rfl 1 (by decide) (hts _ mwX5_tellRow_3) (fun _ h9 => h9) rfl dX5_tellRow_15 ?_
  refine va_get (D := D) (ci := 8) (v := .int (Int32.ofInt i_p0_kitchen_state_bone)) (C := RX8) (T := TX8) (N := 9) hx hb hts inX5_tellRow_X8 hown hK hP 4 rfl rfl 6 (by decide) (hts _ mwX5_tellRow_6) (fun _ h9 => h9) rfl dX5_tellRow_18 ?_
  refine z_topi (fun z2 ez => ?_)
  replace hf := bnd_s hf ez
  clear ez
  refine lv_istore (lv' := [(4, .int (Int32.ofInt z2)), (3, .int (Int32.ofInt z1)), (0, .ref a_p0), (1, .int (Int32.ofInt x1)), (2, .int (Int32.ofInt x2))]) hx hb dX5_tellRow_21 hl (by decide) rfl (fun ls hl => ?_)
  refine lv_iconst (v := Int32.ofInt (0 : Int)) hx hb dX5_tellRow_23 (by decide) ?_
  refine z_topi (fun z3 ez => ?_)
  replace hf := bnd_s hf ez
  clear ez
  refine lv_istore (lv' := [(5, .int (Int32.ofInt z3)), (4, .int (Int32.ofInt z2)), (3, .int (Int32.ofInt z1)), (0, .ref a_p0), (1, .int (Int32.ofInt x1)), (2, .int (Int32.ofInt x2))]) hx hb dX5_tellRow_24 hl (by decide) rfl (fun ls hl => ?_)
  have hq := lq4_i hf
  clear hf
  obtain ⟨B8, eB8, NB8, hf⟩ := hq
  have hB8 : ∀ (n : Nat) (z4 : Int) (z5 : Int) (z6 : Int) (w7 : (Int → Int)) (ls : Array Slot) (H : Heap) (locs : List Loc), lv_has ls 7 [(5, .int (Int32.ofInt z4)), (4, .int (Int32.ofInt z5)), (3, .int (Int32.ofInt z6)), (0, .ref a_p0), (1, .int (Int32.ofInt x1)), (2, .int (Int32.ofInt x2))] → va_P D vwCl [(a_p0, .inr (5, [.ref a_p0_kitchen, .ref a_p0_good, .ref a_p0_row])), (a_p0_kitchen, .inr (2, [.ref a_p0_kitchen_rules, .ref a_p0_kitchen_state, .ref a_p0_kitchen_places, .ref a_p0_kitchen_holders, .ref a_p0_kitchen_stirred])), (a_p0_kitchen_rules, .inr (6, [.int (Int32.ofInt i_p0_kitchen_rules_seats), .int (Int32.ofInt i_p0_kitchen_rules_stirs), .ref a_p0_kitchen_rules_need, .ref a_p0_kitchen_rules_kind, .ref a_p0_kitchen_rules_first, .ref a_p0_kitchen_rules_second, .ref a_p0_kitchen_rules_after])), (a_p0_kitchen_rules_after, .inl (G 1, 35, .inl (zA v_p0_kitchen_rules_after))), (a_p0_kitchen_state, .inr (8, [.ref a_p0_kitchen_state_pieces, .ref a_p0_kitchen_state_friends, .ref a_p0_kitchen_state_spoons, .ref a_p0_kitchen_state_eaten, .ref a_p0_kitchen_state_seen, .int (Int32.ofInt i_p0_kitchen_state_seenDays), .int (Int32.ofInt i_p0_kitchen_state_bone), .int (Int32.ofInt i_p0_kitchen_state_king), .int (Int32.ofInt i_p0_kitchen_state_days)])), (a_p0_kitchen_holders, .inl (G 1, 49, .inl (zA v_p0_kitchen_holders))), (a_p0_good, .inl (G 2, 11, .inr (.inl (zL v_p0_good)))), (a_p0_row, .inl (G 1, 10, .inl (zA w7)))] H → va_D A [(a_p0, .inr (5, [.ref a_p0_kitchen, .ref a_p0_good, .ref a_p0_row])), (a_p0_kitchen, .inr (2, [.ref a_p0_kitchen_rules, .ref a_p0_kitchen_state, .ref a_p0_kitchen_places, .ref a_p0_kitchen_holders, .ref a_p0_kitchen_stirred])), (a_p0_kitchen_rules, .inr (6, [.int (Int32.ofInt i_p0_kitchen_rules_seats), .int (Int32.ofInt i_p0_kitchen_rules_stirs), .ref a_p0_kitchen_rules_need, .ref a_p0_kitchen_rules_kind, .ref a_p0_kitchen_rules_first, .ref a_p0_kitchen_rules_second, .ref a_p0_kitchen_rules_after])), (a_p0_kitchen_rules_after, .inl (G 1, 35, .inl (zA v_p0_kitchen_rules_after))), (a_p0_kitchen_state, .inr (8, [.ref a_p0_kitchen_state_pieces, .ref a_p0_kitchen_state_friends, .ref a_p0_kitchen_state_spoons, .ref a_p0_kitchen_state_eaten, .ref a_p0_kitchen_state_seen, .int (Int32.ofInt i_p0_kitchen_state_seenDays), .int (Int32.ofInt i_p0_kitchen_state_bone), .int (Int32.ofInt i_p0_kitchen_state_king), .int (Int32.ofInt i_p0_kitchen_state_days)])), (a_p0_kitchen_holders, .inl (G 1, 49, .inl (zA v_p0_kitchen_holders))), (a_p0_good, .inl (G 2, 11, .inr (.inl (zL v_p0_good)))), (a_p0_row, .inl (G 1, 10, .inl (zA w7)))] → va_S A s.heap H locs → lq4 B8 n z4 z5 z6 w7 = some o_v_p0_row → W p l e rm_X5_tellRow s m ([.ref a_p0, .int (Int32.ofInt x1), .int (Int32.ofInt x2)] : List Value).toArray below meth c H locs 0 0 Q (F0 m 26 ls []) := by
    clear hf hl hP hD hS
    intro n
    induction n with
    | zero =>
      intro z4 z5 z6 w7 ls H locs hl hP hD hS hf
      exact (lq4_0 hf).elim
    | succ n ih26 =>
      intro z4 z5 z6 w7 ls H locs hl hP hD hS hf
      replace hf := lq4_s eB8 hf
      unfold B_X5_tellRow_26 at hf
      refine lv_iload hx hb dX5_tellRow_26 (lv_at hl 0 rfl) ?_
      refine lv_iload_n hx hb dX5_tellRow_28 rfl (lv_at hl 4 rfl) ?_
      have hr8 := ck_c hf
      replace hf := ck_r hf
      have hr9 := ck_c hf
      replace hf := ck_r hf
      refine lv_icmp_ge (tgt := 111) hx hb dX5_tellRow_29 (by decide) (fun cc => ?_) (fun cc => ?_)
      ·
        replace hf := ite_t ((z_le hr9 hr8).mp cc) hf
        clear cc
        obtain rfl := ou1 hf
        rw [hQ]
        exact W.vret hx hb hr (fun t ht hW => ⟨⟨(), rfl, trivial, by rw [ht]; exact hP, va_K.moved hW.alike hK, hD⟩, hS.F ht⟩) hS.2.2 dX5_tellRow_111
      ·
        replace hf := ite_f (fun h9 => cc ((z_le hr9 hr8).mpr h9)) hf
        clear cc
        refine lv_aload_n hx hb dX5_tellRow_32 rfl (lv_at hl 3 rfl) ?_
        refine lv_aload_n hx hb dX5_tellRow_33 rfl (lv_at hl 3 rfl) ?_
        refine va_get (D := D) (ci := 5) (v := .ref a_p0_good) (C := RX5) (T := TX5) (N := 3) hx hb hts inX5_tellRow_X5 hown hK hP 0 rfl rfl 1 (by decide) (hts _ mwX5_tellRow_7) (fun _ h9 => h9) rfl dX5_tellRow_34 ?_
        refine lv_iload_n hx hb dX5_tellRow_37 rfl (lv_at hl 4 rfl) ?_
        refine lv_iconst (v := Int32.ofInt (1 : Int)) hx hb dX5_tellRow_38 (by decide) ?_
        refine lv_isub hx hb dX5_tellRow_39 (z_ci (Int32.ofInt_sub x1 (1 : Int)) ?_)
        refine lv_iload hx hb dX5_tellRow_40 (lv_at hl 0 rfl) ?_
        refine lv_isub hx hb dX5_tellRow_42 (z_ci (Int32.ofInt_sub (x1 - (1 : Int)) z4) ?_)
        have hc := ck_c hf
        replace hf := ck_r hf
        refine va_lald hx hb hK hP 6 2 rfl rfl (z_ix_in hc) dX5_tellRow_43 (z_cl (z_aldL v_p0_good hc) ?_)
        clear hc
        refine lv_iload_n hx hb dX5_tellRow_44 rfl (lv_at hl 2 rfl) ?_
        refine lv_iload hx hb dX5_tellRow_45 (lv_at hl 1 rfl) ?_
        refine lv_iload_n hx hb dX5_tellRow_47 rfl (lv_at hl 5 rfl) ?_
        have hq := bd1_s hf
        clear hf
        obtain ⟨z11, hcall, hf⟩ := hq
        refine gnI (va_runV (As := [.long (Int64.ofInt (v_p0_good ((x1 - (1 : Int)) - z4))), .int (Int32.ofInt z6), .int (Int32.ofInt z5), .int (Int32.ofInt x2)]) (rest := []) ⟨hx, hb, hml, hown, hts⟩ (c_X5_firstStirInto (l := l) (D := D) (G := G) (sz := H.size) (a_p0 := a_p0) (a_p0_kitchen := a_p0_kitchen) (a_p0_good := a_p0_good) (a_p0_row := a_p0_row) (a_p0_kitchen_rules := a_p0_kitchen_rules) (a_p0_kitchen_state := a_p0_kitchen_state) (a_p0_kitchen_places := a_p0_kitchen_places) (a_p0_kitchen_holders := a_p0_kitchen_holders) (a_p0_kitchen_stirred := a_p0_kitchen_stirred) (a_p0_kitchen_rules_need := a_p0_kitchen_rules_need) (a_p0_kitchen_rules_kind := a_p0_kitchen_rules_kind) (a_p0_kitchen_rules_first := a_p0_kitchen_rules_first) (a_p0_kitchen_rules_second := a_p0_kitchen_rules_second) (a_p0_kitchen_rules_after := a_p0_kitchen_rules_after) (i_p0_kitchen_rules_seats := i_p0_kitchen_rules_seats) (i_p0_kitchen_rules_stirs := i_p0_kitchen_rules_stirs) (v_p0_kitchen_rules_after := v_p0_kitchen_rules_after) (v_p0_kitchen_holders := v_p0_kitchen_holders) (x1 := (v_p0_good ((x1 - (1 : Int)) - z4))) (x3 := z6) (x4 := z5) (x5 := x2) (r := z11) (hf := hcall)) (cwV 4 hts gX5_tellRow_X5_firstStirInto rfl rfl rfl hdV_yX5_firstStirInto_RX5 ⟨Nat.le_of_ble_eq_true rfl, Nat.le_of_ble_eq_true rfl⟩) (preG_V (ci := 5) (q := (RX5, TX5, 3)) (hP.sub [0, 1, 2, 3, 5] rfl) (hD.sub [0, 1, 2, 3, 5] rfl rfl) hK rfl rfl) rfl rfl hl.1 rfl (lv_room (Nat.le_of_ble_eq_true rfl)) dX5_tellRow_48 ⟨Nat.le_of_ble_eq_true rfl, Nat.le_of_ble_eq_true rfl⟩) hP hD hS hA [0, 1, 2, 3, 5] rfl (fun H locs hP hD hS => ?_)
        clear hcall
        refine z_topi (fun z12 ez => ?_)
        replace hf := bnd_s hf ez
        clear ez
        refine lv_istore (lv' := [(6, .int (Int32.ofInt z12)), (5, .int (Int32.ofInt z4)), (4, .int (Int32.ofInt z5)), (3, .int (Int32.ofInt z6)), (0, .ref a_p0), (1, .int (Int32.ofInt x1)), (2, .int (Int32.ofInt x2))]) hx hb dX5_tellRow_51 hl (by decide) rfl (fun ls hl => ?_)
        refine lv_aload_n hx hb dX5_tellRow_53 rfl (lv_at hl 4 rfl) ?_
        refine va_get (D := D) (ci := 5) (v := .ref a_p0_kitchen) (C := RX5) (T := TX5) (N := 3) hx hb hts inX5_tellRow_X5 hown hK hP 0 rfl rfl 0 (by decide) (hts _ mwX5_tellRow_1) (fun _ h9 => h9) rfl dX5_tellRow_54 ?_
        refine va_get (D := D) (ci := 2) (v := .ref a_p0_kitchen_rules) (C := RX2) (T := TX2) (N := 5) hx hb hts inX5_tellRow_X2 hown hK hP 1 rfl rfl 0 (by decide) (hts _ mwX5_tellRow_8) (fun _ h9 => h9) rfl dX5_tellRow_57 ?_
        refine lv_iload hx hb dX5_tellRow_60 (lv_at hl 0 rfl) ?_
        have hq := bd1_s hf
        clear hf
        obtain ⟨z13, hcall, hf⟩ := hq
        refine gnI (va_runV (As := [.int (Int32.ofInt z12)]) (rest := []) ⟨hx, hb, hml, hown, hts⟩ (c_X6_hasStir (l := l) (D := D) (G := G) (sz := H.size) (a_p0 := a_p0_kitchen_rules) (a_p0_need := a_p0_kitchen_rules_need) (a_p0_kind := a_p0_kitchen_rules_kind) (a_p0_first := a_p0_kitchen_rules_first) (a_p0_second := a_p0_kitchen_rules_second) (a_p0_after := a_p0_kitchen_rules_after) (i_p0_seats := i_p0_kitchen_rules_seats) (i_p0_stirs := i_p0_kitchen_rules_stirs) (x1 := z12) (r := z13) (hf := hcall)) (cwV 1 hts gX5_tellRow_X6_hasStir rfl rfl rfl hdV_yX6_hasStir_RX6 ⟨Nat.le_of_ble_eq_true rfl, Nat.le_of_ble_eq_true rfl⟩) (preG_V (ci := 6) (q := (RX6, TX6, 7)) (hP.sub [2] rfl) (hD.sub [2] rfl rfl) hK rfl rfl) rfl rfl hl.1 rfl (lv_room (Nat.le_of_ble_eq_true rfl)) dX5_tellRow_62 ⟨Nat.le_of_ble_eq_true rfl, Nat.le_of_ble_eq_true rfl⟩) hP hD hS hA [2] rfl (fun H locs hP hD hS => ?_)
        clear hcall
        have hr13 := ck_c hf
        replace hf := ck_r hf
        refine lv_if_ne (tgt := 69) hx hb dX5_tellRow_65 (by decide) (fun cc => ?_) (fun cc => ?_)
        ·
          replace hf := ite_f (fun h9 => cc ((z_eq0 hr13).mpr h9)) hf
          clear cc
          refine lv_aload_n hx hb dX5_tellRow_69 rfl (lv_at hl 4 rfl) ?_
          refine va_get (D := D) (ci := 5) (v := .ref a_p0_row) (C := RX5) (T := TX5) (N := 3) hx hb hts inX5_tellRow_X5 hown hK hP 0 rfl rfl 2 (by decide) (hts _ mwX5_tellRow_10) (fun _ h9 => h9) rfl dX5_tellRow_70 ?_
          refine lv_iload hx hb dX5_tellRow_73 (lv_at hl 1 rfl) ?_
          refine lv_iload hx hb dX5_tellRow_75 (lv_at hl 0 rfl) ?_
          have hc := ck_c hf
          replace hf := ck_r hf
          refine zs_iast (wf := fun w15 => [(a_p0, .inr (5, [.ref a_p0_kitchen, .ref a_p0_good, .ref a_p0_row])), (a_p0_kitchen, .inr (2, [.ref a_p0_kitchen_rules, .ref a_p0_kitchen_state, .ref a_p0_kitchen_places, .ref a_p0_kitchen_holders, .ref a_p0_kitchen_stirred])), (a_p0_kitchen_rules, .inr (6, [.int (Int32.ofInt i_p0_kitchen_rules_seats), .int (Int32.ofInt i_p0_kitchen_rules_stirs), .ref a_p0_kitchen_rules_need, .ref a_p0_kitchen_rules_kind, .ref a_p0_kitchen_rules_first, .ref a_p0_kitchen_rules_second, .ref a_p0_kitchen_rules_after])), (a_p0_kitchen_rules_after, .inl (G 1, 35, .inl (zA v_p0_kitchen_rules_after))), (a_p0_kitchen_state, .inr (8, [.ref a_p0_kitchen_state_pieces, .ref a_p0_kitchen_state_friends, .ref a_p0_kitchen_state_spoons, .ref a_p0_kitchen_state_eaten, .ref a_p0_kitchen_state_seen, .int (Int32.ofInt i_p0_kitchen_state_seenDays), .int (Int32.ofInt i_p0_kitchen_state_bone), .int (Int32.ofInt i_p0_kitchen_state_king), .int (Int32.ofInt i_p0_kitchen_state_days)])), (a_p0_kitchen_holders, .inl (G 1, 49, .inl (zA v_p0_kitchen_holders))), (a_p0_good, .inl (G 2, 11, .inr (.inl (zL v_p0_good)))), (a_p0_row, .inl (G 1, 10, .inl (zA w15)))]) hx hb hK hP hD hS 7 1 rfl rfl hc dX5_tellRow_77 (fun _ => rfl) (fun w15 ez H locs hP hD hS => ?_)
          replace hf := bnd_s hf ez
          clear ez hc
          refine lv_aload_n hx hb dX5_tellRow_78 rfl (lv_at hl 4 rfl) ?_
          refine va_get (D := D) (ci := 5) (v := .ref a_p0_kitchen) (C := RX5) (T := TX5) (N := 3) hx hb hts inX5_tellRow_X5 hown hK hP 0 rfl rfl 0 (by decide) (hts _ mwX5_tellRow_1) (fun _ h9 => h9) rfl dX5_tellRow_79 ?_
          refine va_get (D := D) (ci := 2) (v := .ref a_p0_kitchen_rules) (C := RX2) (T := TX2) (N := 5) hx hb hts inX5_tellRow_X2 hown hK hP 1 rfl rfl 0 (by decide) (hts _ mwX5_tellRow_8) (fun _ h9 => h9) rfl dX5_tellRow_82 ?_
          refine lv_iload hx hb dX5_tellRow_85 (lv_at hl 0 rfl) ?_
          refine lv_iload hx hb dX5_tellRow_87 (lv_at hl 2 rfl) ?_
          have hq := bd1_s hf
          clear hf
          obtain ⟨z16, hcall, hf⟩ := hq
          refine gnI (va_runV (As := [.int (Int32.ofInt z12), .int (Int32.ofInt z5)]) (rest := []) ⟨hx, hb, hml, hown, hts⟩ (c_X6_placeAfter (l := l) (D := D) (G := G) (sz := H.size) (a_p0 := a_p0_kitchen_rules) (a_p0_need := a_p0_kitchen_rules_need) (a_p0_kind := a_p0_kitchen_rules_kind) (a_p0_first := a_p0_kitchen_rules_first) (a_p0_second := a_p0_kitchen_rules_second) (a_p0_after := a_p0_kitchen_rules_after) (i_p0_seats := i_p0_kitchen_rules_seats) (i_p0_stirs := i_p0_kitchen_rules_stirs) (v_p0_after := v_p0_kitchen_rules_after) (x1 := z12) (x2 := z5) (r := z16) (hf := hcall)) (cwV 2 hts gX5_tellRow_X6_placeAfter rfl rfl rfl hdV_yX6_placeAfter_RX6 ⟨Nat.le_of_ble_eq_true rfl, Nat.le_of_ble_eq_true rfl⟩) (preG_V (ci := 6) (q := (RX6, TX6, 7)) (hP.sub [2, 3] rfl) (hD.sub [2, 3] rfl rfl) hK rfl rfl) rfl rfl hl.1 rfl (lv_room (Nat.le_of_ble_eq_true rfl)) dX5_tellRow_89 ⟨Nat.le_of_ble_eq_true rfl, Nat.le_of_ble_eq_true rfl⟩) hP hD hS hA [2, 3] rfl (fun H locs hP hD hS => ?_)
          clear hcall
          refine z_topi (fun z17 ez => ?_)
          replace hf := bnd_s hf ez
          clear ez
          refine lv_istore (lv' := [(4, .int (Int32.ofInt z17)), (6, .int (Int32.ofInt z12)), (5, .int (Int32.ofInt z4)), (3, .int (Int32.ofInt z6)), (0, .ref a_p0), (1, .int (Int32.ofInt x1)), (2, .int (Int32.ofInt x2))]) hx hb dX5_tellRow_92 hl (by decide) rfl (fun ls hl => ?_)
          refine lv_aload_n hx hb dX5_tellRow_94 rfl (lv_at hl 4 rfl) ?_
          refine va_get (D := D) (ci := 5) (v := .ref a_p0_kitchen) (C := RX5) (T := TX5) (N := 3) hx hb hts inX5_tellRow_X5 hown hK hP 0 rfl rfl 0 (by decide) (hts _ mwX5_tellRow_1) (fun _ h9 => h9) rfl dX5_tellRow_95 ?_
          refine lv_iload_n hx hb dX5_tellRow_98 rfl (lv_at hl 3 rfl) ?_
          refine lv_iload hx hb dX5_tellRow_99 (lv_at hl 0 rfl) ?_
          have hq := bd1_s hf
          clear hf
          obtain ⟨z18, hcall, hf⟩ := hq
          refine gnI (va_runV (As := [.int (Int32.ofInt z6), .int (Int32.ofInt z17)]) (rest := []) ⟨hx, hb, hml, hown, hts⟩ (c_X2_holderOf (l := l) (D := D) (G := G) (sz := H.size) (a_p0 := a_p0_kitchen) (a_p0_rules := a_p0_kitchen_rules) (a_p0_state := a_p0_kitchen_state) (a_p0_places := a_p0_kitchen_places) (a_p0_holders := a_p0_kitchen_holders) (a_p0_stirred := a_p0_kitchen_stirred) (v_p0_holders := v_p0_kitchen_holders) (x1 := z6) (x2 := z17) (r := z18) (hf := hcall)) (cwV 2 hts gX5_tellRow_X2_holderOf rfl rfl rfl hdV_yX2_holderOf_RX2 ⟨Nat.le_of_ble_eq_true rfl, Nat.le_of_ble_eq_true rfl⟩) (preG_V (ci := 2) (q := (RX2, TX2, 5)) (hP.sub [1, 5] rfl) (hD.sub [1, 5] rfl rfl) hK rfl rfl) rfl rfl hl.1 rfl (lv_room (Nat.le_of_ble_eq_true rfl)) dX5_tellRow_101 ⟨Nat.le_of_ble_eq_true rfl, Nat.le_of_ble_eq_true rfl⟩) hP hD hS hA [1, 5] rfl (fun H locs hP hD hS => ?_)
          clear hcall
          refine z_topi (fun z19 ez => ?_)
          replace hf := bnd_s hf ez
          clear ez
          refine lv_istore_n (lv' := [(3, .int (Int32.ofInt z19)), (4, .int (Int32.ofInt z17)), (6, .int (Int32.ofInt z12)), (5, .int (Int32.ofInt z4)), (0, .ref a_p0), (1, .int (Int32.ofInt x1)), (2, .int (Int32.ofInt x2))]) hx hb dX5_tellRow_104 rfl hl (by decide) rfl (fun ls hl => ?_)
          obtain ⟨z20, ez⟩ : ∃ y : Int, y = (z4 + (1 : Int)) := ⟨_, rfl⟩
          replace hf := bnd_s hf ez
          refine lv_iinc (v := Int32.ofInt z20) (lv' := [(5, .int (Int32.ofInt z20)), (3, .int (Int32.ofInt z19)), (4, .int (Int32.ofInt z17)), (6, .int (Int32.ofInt z12)), (0, .ref a_p0), (1, .int (Int32.ofInt x1)), (2, .int (Int32.ofInt x2))]) hx hb dX5_tellRow_105 hl (k := 3) rfl (by rw [ez]; exact (Int32.ofInt_add _ _).symm) (by decide) rfl (fun ls hl => ?_)
          clear ez
          refine lv_goto (tgt := 26) hx hb dX5_tellRow_108 (by decide) ?_
          exact ih26 _ _ _ _ _ _ _ (lv_sub hl [0, 2, 1, 4, 5, 6] rfl) hP hD hS hf
        ·
          replace hf := ite_t ((z_eq0 hr13).mp cc) hf
          clear cc
          obtain rfl := ou1 hf
          rw [hQ]
          exact W.vret hx hb hr (fun t ht hW => ⟨⟨(), rfl, trivial, by rw [ht]; exact hP, va_K.moved hW.alike hK, hD⟩, hS.F ht⟩) hS.2.2 dX5_tellRow_68
  exact hB8 _ _ _ _ _ _ _ _ (lv_sub hl [0, 1, 2, 3, 4, 5] rfl) hP hD hS hf

noncomputable def B_X5_planReign_21 (x1 : Int) (J9 : Int → (Int → Int) → Option (Int × (Int → Int) × (Int → Int) × (Int → Int) × (Int → Int))) (i_p0_kitchen_rules_seats : Int) (i_p0_kitchen_rules_stirs : Int) (v_p0_kitchen_rules_after : (Int → Int)) (w2 : (Int → Int)) (i_p0_kitchen_state_bone : Int) (i_p0_kitchen_state_king : Int) (again21 : Int → Int → (Int → Int) → Option (Int × (Int → Int) × (Int → Int) × (Int → Int) × (Int → Int))) (z11 : Int) (z12 : Int) (w13 : (Int → Int)) : Option (Int × (Int → Int) × (Int → Int) × (Int → Int) × (Int → Int)) := (ck (z_r32 z11) (ck (z_r32 x1) (if x1 < z11 then (J9 z12 w13) else (ck (z_ix (z11 - (1 : Int)) 11) (bd1 (f_X5_pairsBefore i_p0_kitchen_rules_seats i_p0_kitchen_rules_stirs v_p0_kitchen_rules_after w2 (w13 (z11 - (1 : Int))) (1 : Int)) (fun (z17 : Int) => (ck (z_ix z11 11) (bnd (z_up w13 z11 z17) (fun (w18 : (Int → Int)) => (bd1 (f_X5_isGoodNow i_p0_kitchen_state_bone i_p0_kitchen_state_king w18 z11) (fun (z19 : Int) => (ck (z_r32 z19) (if z19 = (0 : Int) then (bnd (z11 + (1 : Int)) (fun (z21 : Int) => (again21 z21 z12 w18))) else (bnd z11 (fun (z22 : Int) => (bnd (z11 + (1 : Int)) (fun (z23 : Int) => (again21 z23 z22 w18))))))))))))))))))
noncomputable def f_X5_planReign (i_p0_kitchen_rules_seats : Int) (i_p0_kitchen_rules_stirs : Int) (v_p0_kitchen_rules_after : (Int → Int)) (i_p0_kitchen_state_bone : Int) (i_p0_kitchen_state_king : Int) (v_p0_kitchen_state_friends : (Int → Int)) (v_p0_kitchen_places : (Int → Int)) (v_p0_kitchen_holders : (Int → Int)) (v_p0_good : (Int → Int)) (v_p0_row : (Int → Int)) (x1 : Int) : Option (Int × (Int → Int) × (Int → Int) × (Int → Int) × (Int → Int)) := (bd2 (f_X2_serveAllKings i_p0_kitchen_rules_seats v_p0_kitchen_state_friends v_p0_kitchen_places v_p0_kitchen_holders) (fun (w1 : (Int → Int)) (w2 : (Int → Int)) => (bd1 (f_X5_allPairs i_p0_kitchen_rules_seats) (fun (z3 : Int) => (ck (z_ix (0 : Int) 11) (bnd (z_up v_p0_good (0 : Int) z3) (fun (w4 : (Int → Int)) => (bnd (0 : Int) (fun (z5 : Int) => (bnd (1 : Int) (fun (z6 : Int) => (jn (fun (z7 : Int) (w8 : (Int → Int)) => (bd1 (f_X5_tellRow i_p0_kitchen_rules_stirs v_p0_kitchen_rules_after i_p0_kitchen_state_bone i_p0_kitchen_state_king w2 w8 v_p0_row z7 (1 : Int)) (fun (w10 : (Int → Int)) => (some (z7, w1, w2, w8, w10))))) (fun (J9 : Int → (Int → Int) → Option (Int × (Int → Int) × (Int → Int) × (Int → Int) × (Int → Int))) => (lq3 (B_X5_planReign_21 x1 J9 i_p0_kitchen_rules_seats i_p0_kitchen_rules_stirs v_p0_kitchen_rules_after w2 i_p0_kitchen_state_bone i_p0_kitchen_state_king) 1000 z6 z5 w4))))))))))))))
abbrev rm_X5_planReign : Room := { frames := 3, cells := 0, slots := 0, locals := 77 }
theorem inX5_planReign_X5 : ∀ w ∈ wsX50, w ∈ wsX5_planReign := by first | exact fun w h => List.mem_cons_of_mem _ (List.mem_append_left _ (List.mem_append_left _ (List.mem_append_left _ (List.mem_append_right _ h)))) | decide +kernel
theorem mwX5_planReign_1 : Cond.fieldLink RX5 19 "LadleKings$Plans" "kitchen" "LLadleKings$Kitchen;" ∈ wsX5_planReign := by first | exact List.mem_of_getElem? (i := 1) rfl | decide +kernel
theorem mwX5_planReign_2 : Cond.fieldLink RX5 9 "LadleKings$Plans" "good" "[J" ∈ wsX5_planReign := by first | exact List.mem_of_getElem? (i := 2) rfl | decide +kernel
theorem hdV_yX5_allPairs_RX5 : yX5_allPairs.cls = RX5 ∧ yX5_allPairs.cls ≠ "java/lang/invoke/MethodHandle" ∧ yX5_allPairs.cls ≠ "java/lang/invoke/VarHandle" ∧ (parseMethodDescriptor yX5_allPairs.desc).map (fun d => d.parameters.length) = some 0 := by decide +kernel
theorem hdV_yX5_tellRow_RX5 : yX5_tellRow.cls = RX5 ∧ yX5_tellRow.cls ≠ "java/lang/invoke/MethodHandle" ∧ yX5_tellRow.cls ≠ "java/lang/invoke/VarHandle" ∧ (parseMethodDescriptor yX5_tellRow.desc).map (fun d => d.parameters.length) = some 2 := by decide +kernel
theorem hdV_yX5_pairsBefore_RX5 : yX5_pairsBefore.cls = RX5 ∧ yX5_pairsBefore.cls ≠ "java/lang/invoke/MethodHandle" ∧ yX5_pairsBefore.cls ≠ "java/lang/invoke/VarHandle" ∧ (parseMethodDescriptor yX5_pairsBefore.desc).map (fun d => d.parameters.length) = some 2 := by decide +kernel
theorem hdV_yX5_isGoodNow_RX5 : yX5_isGoodNow.cls = RX5 ∧ yX5_isGoodNow.cls ≠ "java/lang/invoke/MethodHandle" ∧ yX5_isGoodNow.cls ≠ "java/lang/invoke/VarHandle" ∧ (parseMethodDescriptor yX5_isGoodNow.desc).map (fun d => d.parameters.length) = some 1 := by decide +kernel
set_option maxHeartbeats 8000000 in
set_option maxRecDepth 100000 in
theorem c_X5_planReign (l : Launch) (D : va_G) (G : Nat → ClassId) (sz : Nat) (a_p0 : Nat) (a_p0_kitchen : Nat) (a_p0_good : Nat) (a_p0_row : Nat) (a_p0_kitchen_rules : Nat) (a_p0_kitchen_state : Nat) (a_p0_kitchen_places : Nat) (a_p0_kitchen_holders : Nat) (a_p0_kitchen_stirred : Nat) (a_p0_kitchen_rules_need : Nat) (a_p0_kitchen_rules_kind : Nat) (a_p0_kitchen_rules_first : Nat) (a_p0_kitchen_rules_second : Nat) (a_p0_kitchen_rules_after : Nat) (a_p0_kitchen_state_pieces : Nat) (a_p0_kitchen_state_friends : Nat) (a_p0_kitchen_state_spoons : Nat) (a_p0_kitchen_state_eaten : Nat) (a_p0_kitchen_state_seen : Nat) (i_p0_kitchen_rules_seats : Int) (i_p0_kitchen_rules_stirs : Int) (v_p0_kitchen_rules_after : (Int → Int)) (i_p0_kitchen_state_seenDays : Int) (i_p0_kitchen_state_bone : Int) (i_p0_kitchen_state_king : Int) (i_p0_kitchen_state_days : Int) (v_p0_kitchen_state_friends : (Int → Int)) (v_p0_kitchen_places : (Int → Int)) (v_p0_kitchen_holders : (Int → Int)) (v_p0_good : (Int → Int)) (v_p0_row : (Int → Int)) (x1 : Int) (r : Int) (o_v_p0_kitchen_places : (Int → Int)) (o_v_p0_kitchen_holders : (Int → Int)) (o_v_p0_good : (Int → Int)) (o_v_p0_row : (Int → Int)) (hf : f_X5_planReign i_p0_kitchen_rules_seats i_p0_kitchen_rules_stirs v_p0_kitchen_rules_after i_p0_kitchen_state_bone i_p0_kitchen_state_king v_p0_kitchen_state_friends v_p0_kitchen_places v_p0_kitchen_holders v_p0_good v_p0_row x1 = some (r, o_v_p0_kitchen_places, o_v_p0_kitchen_holders, o_v_p0_good, o_v_p0_row)) : Met l yX5_planReign wsX5_planReign rm_X5_planReign (pcG D G [.ref a_p0, .int (Int32.ofInt x1)] sz [(a_p0, .inr (5, [.ref a_p0_kitchen, .ref a_p0_good, .ref a_p0_row])), (a_p0_kitchen, .inr (2, [.ref a_p0_kitchen_rules, .ref a_p0_kitchen_state, .ref a_p0_kitchen_places, .ref a_p0_kitchen_holders, .ref a_p0_kitchen_stirred])), (a_p0_kitchen_rules, .inr (6, [.int (Int32.ofInt i_p0_kitchen_rules_seats), .int (Int32.ofInt i_p0_kitchen_rules_stirs), .ref a_p0_kitchen_rules_need, .ref a_p0_kitchen_rules_kind, .ref a_p0_kitchen_rules_first, .ref a_p0_kitchen_rules_second, .ref a_p0_kitchen_rules_after])), (a_p0_kitchen_rules_after, .inl (G 1, 35, .inl (zA v_p0_kitchen_rules_after))), (a_p0_kitchen_state, .inr (8, [.ref a_p0_kitchen_state_pieces, .ref a_p0_kitchen_state_friends, .ref a_p0_kitchen_state_spoons, .ref a_p0_kitchen_state_eaten, .ref a_p0_kitchen_state_seen, .int (Int32.ofInt i_p0_kitchen_state_seenDays), .int (Int32.ofInt i_p0_kitchen_state_bone), .int (Int32.ofInt i_p0_kitchen_state_king), .int (Int32.ofInt i_p0_kitchen_state_days)])), (a_p0_kitchen_state_friends, .inl (G 1, 7, .inl (zA v_p0_kitchen_state_friends))), (a_p0_kitchen_places, .inl (G 1, 49, .inl (zA v_p0_kitchen_places))), (a_p0_kitchen_holders, .inl (G 1, 49, .inl (zA v_p0_kitchen_holders))), (a_p0_good, .inl (G 2, 11, .inr (.inl (zL v_p0_good)))), (a_p0_row, .inl (G 1, 10, .inl (zA v_p0_row)))]) (qcI D G (Int32.ofInt r) [(a_p0, .inr (5, [.ref a_p0_kitchen, .ref a_p0_good, .ref a_p0_row])), (a_p0_kitchen, .inr (2, [.ref a_p0_kitchen_rules, .ref a_p0_kitchen_state, .ref a_p0_kitchen_places, .ref a_p0_kitchen_holders, .ref a_p0_kitchen_stirred])), (a_p0_kitchen_rules, .inr (6, [.int (Int32.ofInt i_p0_kitchen_rules_seats), .int (Int32.ofInt i_p0_kitchen_rules_stirs), .ref a_p0_kitchen_rules_need, .ref a_p0_kitchen_rules_kind, .ref a_p0_kitchen_rules_first, .ref a_p0_kitchen_rules_second, .ref a_p0_kitchen_rules_after])), (a_p0_kitchen_rules_after, .inl (G 1, 35, .inl (zA v_p0_kitchen_rules_after))), (a_p0_kitchen_state, .inr (8, [.ref a_p0_kitchen_state_pieces, .ref a_p0_kitchen_state_friends, .ref a_p0_kitchen_state_spoons, .ref a_p0_kitchen_state_eaten, .ref a_p0_kitchen_state_seen, .int (Int32.ofInt i_p0_kitchen_state_seenDays), .int (Int32.ofInt i_p0_kitchen_state_bone), .int (Int32.ofInt i_p0_kitchen_state_king), .int (Int32.ofInt i_p0_kitchen_state_days)])), (a_p0_kitchen_state_friends, .inl (G 1, 7, .inl (zA v_p0_kitchen_state_friends))), (a_p0_kitchen_places, .inl (G 1, 49, .inl (zA o_v_p0_kitchen_places))), (a_p0_kitchen_holders, .inl (G 1, 49, .inl (zA o_v_p0_kitchen_holders))), (a_p0_good, .inl (G 2, 11, .inr (.inl (zL o_v_p0_good)))), (a_p0_row, .inl (G 1, 10, .inl (zA o_v_p0_row)))] (va_A [(a_p0, .inr (5, [.ref a_p0_kitchen, .ref a_p0_good, .ref a_p0_row])), (a_p0_kitchen, .inr (2, [.ref a_p0_kitchen_rules, .ref a_p0_kitchen_state, .ref a_p0_kitchen_places, .ref a_p0_kitchen_holders, .ref a_p0_kitchen_stirred])), (a_p0_kitchen_rules, .inr (6, [.int (Int32.ofInt i_p0_kitchen_rules_seats), .int (Int32.ofInt i_p0_kitchen_rules_stirs), .ref a_p0_kitchen_rules_need, .ref a_p0_kitchen_rules_kind, .ref a_p0_kitchen_rules_first, .ref a_p0_kitchen_rules_second, .ref a_p0_kitchen_rules_after])), (a_p0_kitchen_rules_after, .inl (G 1, 35, .inl (zA v_p0_kitchen_rules_after))), (a_p0_kitchen_state, .inr (8, [.ref a_p0_kitchen_state_pieces, .ref a_p0_kitchen_state_friends, .ref a_p0_kitchen_state_spoons, .ref a_p0_kitchen_state_eaten, .ref a_p0_kitchen_state_seen, .int (Int32.ofInt i_p0_kitchen_state_seenDays), .int (Int32.ofInt i_p0_kitchen_state_bone), .int (Int32.ofInt i_p0_kitchen_state_king), .int (Int32.ofInt i_p0_kitchen_state_days)])), (a_p0_kitchen_state_friends, .inl (G 1, 7, .inl (zA v_p0_kitchen_state_friends))), (a_p0_kitchen_places, .inl (G 1, 49, .inl (zA v_p0_kitchen_places))), (a_p0_kitchen_holders, .inl (G 1, 49, .inl (zA v_p0_kitchen_holders))), (a_p0_good, .inl (G 2, 11, .inr (.inl (zL v_p0_good)))), (a_p0_row, .inl (G 1, 10, .inl (zA v_p0_row)))] sz)) 0 0 (va_A [(a_p0, .inr (5, [.ref a_p0_kitchen, .ref a_p0_good, .ref a_p0_row])), (a_p0_kitchen, .inr (2, [.ref a_p0_kitchen_rules, .ref a_p0_kitchen_state, .ref a_p0_kitchen_places, .ref a_p0_kitchen_holders, .ref a_p0_kitchen_stirred])), (a_p0_kitchen_rules, .inr (6, [.int (Int32.ofInt i_p0_kitchen_rules_seats), .int (Int32.ofInt i_p0_kitchen_rules_stirs), .ref a_p0_kitchen_rules_need, .ref a_p0_kitchen_rules_kind, .ref a_p0_kitchen_rules_first, .ref a_p0_kitchen_rules_second, .ref a_p0_kitchen_rules_after])), (a_p0_kitchen_rules_after, .inl (G 1, 35, .inl (zA v_p0_kitchen_rules_after))), (a_p0_kitchen_state, .inr (8, [.ref a_p0_kitchen_state_pieces, .ref a_p0_kitchen_state_friends, .ref a_p0_kitchen_state_spoons, .ref a_p0_kitchen_state_eaten, .ref a_p0_kitchen_state_seen, .int (Int32.ofInt i_p0_kitchen_state_seenDays), .int (Int32.ofInt i_p0_kitchen_state_bone), .int (Int32.ofInt i_p0_kitchen_state_king), .int (Int32.ofInt i_p0_kitchen_state_days)])), (a_p0_kitchen_state_friends, .inl (G 1, 7, .inl (zA v_p0_kitchen_state_friends))), (a_p0_kitchen_places, .inl (G 1, 49, .inl (zA v_p0_kitchen_places))), (a_p0_kitchen_holders, .inl (G 1, 49, .inl (zA v_p0_kitchen_holders))), (a_p0_good, .inl (G 2, 11, .inr (.inl (zL v_p0_good)))), (a_p0_row, .inl (G 1, 10, .inl (zA v_p0_row)))] sz) := by
  refine Met.ofW (cc := cX5_planReign) (maxL := 4) (ret := (some .int)) (by decide) rfl ?_
  intro p e s m args below meth c s₁ B hml hv
  obtain ⟨rfl, hsz, hP, hK, hD0⟩ := hv
  have hx := B.exec
  have hb := B.bytes
  have hr := B.returns
  have hts := atoms_spec (ws := wsX5_planReign) B.pre
  have hown : s.vm.findClass RX5 = some m.cls := findClass_of_methodNamed B.named
  have hlocks := B.notSynchronized
  subst hsz
  have hD := hD0.self (sz := s.heap.size)
  generalize hAe : va_A [(a_p0, .inr (5, [.ref a_p0_kitchen, .ref a_p0_good, .ref a_p0_row])), (a_p0_kitchen, .inr (2, [.ref a_p0_kitchen_rules, .ref a_p0_kitchen_state, .ref a_p0_kitchen_places, .ref a_p0_kitchen_holders, .ref a_p0_kitchen_stirred])), (a_p0_kitchen_rules, .inr (6, [.int (Int32.ofInt i_p0_kitchen_rules_seats), .int (Int32.ofInt i_p0_kitchen_rules_stirs), .ref a_p0_kitchen_rules_need, .ref a_p0_kitchen_rules_kind, .ref a_p0_kitchen_rules_first, .ref a_p0_kitchen_rules_second, .ref a_p0_kitchen_rules_after])), (a_p0_kitchen_rules_after, .inl (G 1, 35, .inl (zA v_p0_kitchen_rules_after))), (a_p0_kitchen_state, .inr (8, [.ref a_p0_kitchen_state_pieces, .ref a_p0_kitchen_state_friends, .ref a_p0_kitchen_state_spoons, .ref a_p0_kitchen_state_eaten, .ref a_p0_kitchen_state_seen, .int (Int32.ofInt i_p0_kitchen_state_seenDays), .int (Int32.ofInt i_p0_kitchen_state_bone), .int (Int32.ofInt i_p0_kitchen_state_king), .int (Int32.ofInt i_p0_kitchen_state_days)])), (a_p0_kitchen_state_friends, .inl (G 1, 7, .inl (zA v_p0_kitchen_state_friends))), (a_p0_kitchen_places, .inl (G 1, 49, .inl (zA v_p0_kitchen_places))), (a_p0_kitchen_holders, .inl (G 1, 49, .inl (zA v_p0_kitchen_holders))), (a_p0_good, .inl (G 2, 11, .inr (.inl (zL v_p0_good)))), (a_p0_row, .inl (G 1, 10, .inl (zA v_p0_row)))] s.heap.size = A at hD ⊢
  have hA : ∀ q : Nat, s.heap.size ≤ q → A q := fun q h => by rw [← hAe]; exact Or.inr h
  clear hAe hD0
  have hS : va_S A s.heap s.heap [] := va_S.rf
  have hl := lv_entry ([.ref a_p0, .int (Int32.ofInt x1)]) (n := 4) (Nat.le_of_ble_eq_true rfl)
  rw [lg_entry_eq]
  generalize (lg_sl ([.ref a_p0, .int (Int32.ofInt x1)]) ++ List.replicate (4 - (lg_sl ([.ref a_p0, .int (Int32.ofInt x1)])).length) Slot.unset).toArray = ls at hl ⊢
  have hl : lv_has ls 4 [(0, .ref a_p0), (1, .int (Int32.ofInt x1))] := hl
  refine W_nameQ (fun Q hQ => ?_)
  obtain ⟨H, hH⟩ : ∃ H, H = s.heap := ⟨_, rfl⟩
  replace hS : va_S A s.heap H [] := by rw [hH]; exact hS
  replace hP : va_P D vwCl [(a_p0, .inr (5, [.ref a_p0_kitchen, .ref a_p0_good, .ref a_p0_row])), (a_p0_kitchen, .inr (2, [.ref a_p0_kitchen_rules, .ref a_p0_kitchen_state, .ref a_p0_kitchen_places, .ref a_p0_kitchen_holders, .ref a_p0_kitchen_stirred])), (a_p0_kitchen_rules, .inr (6, [.int (Int32.ofInt i_p0_kitchen_rules_seats), .int (Int32.ofInt i_p0_kitchen_rules_stirs), .ref a_p0_kitchen_rules_need, .ref a_p0_kitchen_rules_kind, .ref a_p0_kitchen_rules_first, .ref a_p0_kitchen_rules_second, .ref a_p0_kitchen_rules_after])), (a_p0_kitchen_rules_after, .inl (G 1, 35, .inl (zA v_p0_kitchen_rules_after))), (a_p0_kitchen_state, .inr (8, [.ref a_p0_kitchen_state_pieces, .ref a_p0_kitchen_state_friends, .ref a_p0_kitchen_state_spoons, .ref a_p0_kitchen_state_eaten, .ref a_p0_kitchen_state_seen, .int (Int32.ofInt i_p0_kitchen_state_seenDays), .int (Int32.ofInt i_p0_kitchen_state_bone), .int (Int32.ofInt i_p0_kitchen_state_king), .int (Int32.ofInt i_p0_kitchen_state_days)])), (a_p0_kitchen_state_friends, .inl (G 1, 7, .inl (zA v_p0_kitchen_state_friends))), (a_p0_kitchen_places, .inl (G 1, 49, .inl (zA v_p0_kitchen_places))), (a_p0_kitchen_holders, .inl (G 1, 49, .inl (zA v_p0_kitchen_holders))), (a_p0_good, .inl (G 2, 11, .inr (.inl (zL v_p0_good)))), (a_p0_row, .inl (G 1, 10, .inl (zA v_p0_row)))] H := by rw [hH]; exact hP
  rw [← hH]
  clear hH
  unfold f_X5_planReign at hf
  refine lv_aload_n hx hb dX5_planReign_0 rfl (lv_at hl 0 rfl) ?_
  refine va_get (D := D) (ci := 5) (v := .ref a_p0_kitchen) (C := RX5) (T := TX5) (N := 3) hx hb hts inX5_planReign_X5 hown hK hP 0 rfl rfl 0 (by decide) (hts _ mwX5_planReign_1) (fun _ h9 => h9) rfl dX5_planReign_1 ?_
  have hq := bd2_s hf
  clear hf
  obtain ⟨w1, w2, hcall, hf⟩ := hq
  refine gsV (ws' := [(a_p0, .inr (5, [.ref a_p0_kitchen, .ref a_p0_good, .ref a_p0_row])), (a_p0_kitchen, .inr (2, [.ref a_p0_kitchen_rules, .ref a_p0_kitchen_state, .ref a_p0_kitchen_places, .ref a_p0_kitchen_holders, .ref a_p0_kitchen_stirred])), (a_p0_kitchen_rules, .inr (6, [.int (Int32.ofInt i_p0_kitchen_rules_seats), .int (Int32.ofInt i_p0_kitchen_rules_stirs), .ref a_p0_kitchen_rules_need, .ref a_p0_kitchen_rules_kind, .ref a_p0_kitchen_rules_first, .ref a_p0_kitchen_rules_second, .ref a_p0_kitchen_rules_after])), (a_p0_kitchen_rules_after, .inl (G 1, 35, .inl (zA v_p0_kitchen_rules_after))), (a_p0_kitchen_state, .inr (8, [.ref a_p0_kitchen_state_pieces, .ref a_p0_kitchen_state_friends, .ref a_p0_kitchen_state_spoons, .ref a_p0_kitchen_state_eaten, .ref a_p0_kitchen_state_seen, .int (Int32.ofInt i_p0_kitchen_state_seenDays), .int (Int32.ofInt i_p0_kitchen_state_bone), .int (Int32.ofInt i_p0_kitchen_state_king), .int (Int32.ofInt i_p0_kitchen_state_days)])), (a_p0_kitchen_state_friends, .inl (G 1, 7, .inl (zA v_p0_kitchen_state_friends))), (a_p0_kitchen_places, .inl (G 1, 49, .inl (zA w1))), (a_p0_kitchen_holders, .inl (G 1, 49, .inl (zA w2))), (a_p0_good, .inl (G 2, 11, .inr (.inl (zL v_p0_good)))), (a_p0_row, .inl (G 1, 10, .inl (zA v_p0_row)))]) (va_runV (As := []) (rest := []) ⟨hx, hb, hml, hown, hts⟩ (c_X2_serveAllKings (l := l) (D := D) (G := G) (sz := H.size) (a_p0 := a_p0_kitchen) (a_p0_rules := a_p0_kitchen_rules) (a_p0_state := a_p0_kitchen_state) (a_p0_places := a_p0_kitchen_places) (a_p0_holders := a_p0_kitchen_holders) (a_p0_stirred := a_p0_kitchen_stirred) (a_p0_rules_need := a_p0_kitchen_rules_need) (a_p0_rules_kind := a_p0_kitchen_rules_kind) (a_p0_rules_first := a_p0_kitchen_rules_first) (a_p0_rules_second := a_p0_kitchen_rules_second) (a_p0_rules_after := a_p0_kitchen_rules_after) (a_p0_state_pieces := a_p0_kitchen_state_pieces) (a_p0_state_friends := a_p0_kitchen_state_friends) (a_p0_state_spoons := a_p0_kitchen_state_spoons) (a_p0_state_eaten := a_p0_kitchen_state_eaten) (a_p0_state_seen := a_p0_kitchen_state_seen) (i_p0_rules_seats := i_p0_kitchen_rules_seats) (i_p0_rules_stirs := i_p0_kitchen_rules_stirs) (i_p0_state_seenDays := i_p0_kitchen_state_seenDays) (i_p0_state_bone := i_p0_kitchen_state_bone) (i_p0_state_king := i_p0_kitchen_state_king) (i_p0_state_days := i_p0_kitchen_state_days) (v_p0_state_friends := v_p0_kitchen_state_friends) (v_p0_places := v_p0_kitchen_places) (v_p0_holders := v_p0_kitchen_holders) (o_v_p0_places := w1) (o_v_p0_holders := w2) (hf := hcall)) (cwV 0 hts gX5_planReign_X2_serveAllKings rfl rfl rfl hdV_yX2_serveAllKings_RX2 ⟨Nat.le_of_ble_eq_true rfl, Nat.le_of_ble_eq_true rfl⟩) (preG_V (ci := 2) (q := (RX2, TX2, 5)) (hP.sub [1, 2, 4, 5, 6, 7] rfl) (hD.sub [1, 2, 4, 5, 6, 7] rfl rfl) hK rfl rfl) rfl rfl hl.1 rfl (lv_room (Nat.le_of_ble_eq_true rfl)) dX5_planReign_4 ⟨Nat.le_of_ble_eq_true rfl, Nat.le_of_ble_eq_true rfl⟩) hP hD hS hA [1, 2, 4, 5, 6, 7] rfl rfl rfl (fun H locs hP hD hS => ?_)
  clear hcall
  refine lv_aload_n hx hb dX5_planReign_7 rfl (lv_at hl 0 rfl) ?_
  refine va_get (D := D) (ci := 5) (v := .ref a_p0_good) (C := RX5) (T := TX5) (N := 3) hx hb hts inX5_planReign_X5 hown hK hP 0 rfl rfl 1 (by decide) (hts _ mwX5_planReign_2) (fun _ h9 => h9) rfl dX5_planReign_8 ?_
  refine lv_iconst (v := Int32.ofInt (0 : Int)) hx hb dX5_planReign_11 (by decide) ?_
  refine lv_aload_n hx hb dX5_planReign_12 rfl (lv_at hl 0 rfl) ?_
  have hq := bd1_s hf
  clear hf
  obtain ⟨z3, hcall, hf⟩ := hq
  refine gnL (va_runV (As := []) (rest := [.int (Int32.ofInt (0 : Int)), .ref a_p0_good]) ⟨hx, hb, hml, hown, hts⟩ (c_X5_allPairs (l := l) (D := D) (G := G) (sz := H.size) (a_p0 := a_p0) (a_p0_kitchen := a_p0_kitchen) (a_p0_good := a_p0_good) (a_p0_row := a_p0_row) (a_p0_kitchen_rules := a_p0_kitchen_rules) (a_p0_kitchen_state := a_p0_kitchen_state) (a_p0_kitchen_places := a_p0_kitchen_places) (a_p0_kitchen_holders := a_p0_kitchen_holders) (a_p0_kitchen_stirred := a_p0_kitchen_stirred) (a_p0_kitchen_rules_need := a_p0_kitchen_rules_need) (a_p0_kitchen_rules_kind := a_p0_kitchen_rules_kind) (a_p0_kitchen_rules_first := a_p0_kitchen_rules_first) (a_p0_kitchen_rules_second := a_p0_kitchen_rules_second) (a_p0_kitchen_rules_after := a_p0_kitchen_rules_after) (i_p0_kitchen_rules_seats := i_p0_kitchen_rules_seats) (i_p0_kitchen_rules_stirs := i_p0_kitchen_rules_stirs) (r := z3) (hf := hcall)) (cwV 0 hts gX5_planReign_X5_allPairs rfl rfl rfl hdV_yX5_allPairs_RX5 ⟨Nat.le_of_ble_eq_true rfl, Nat.le_of_ble_eq_true rfl⟩) (preG_V (ci := 5) (q := (RX5, TX5, 3)) (hP.sub [0, 1, 2] rfl) (hD.sub [0, 1, 2] rfl rfl) hK rfl rfl) rfl rfl hl.1 rfl (lv_room (Nat.le_of_ble_eq_true rfl)) dX5_planReign_13 ⟨Nat.le_of_ble_eq_true rfl, Nat.le_of_ble_eq_true rfl⟩) hP hD hS hA [0, 1, 2] rfl (fun H locs hP hD hS => ?_)
  clear hcall
  have hc := ck_c hf
  replace hf := ck_r hf
  refine zs_last (wf := fun w4 => [(a_p0, .inr (5, [.ref a_p0_kitchen, .ref a_p0_good, .ref a_p0_row])), (a_p0_kitchen, .inr (2, [.ref a_p0_kitchen_rules, .ref a_p0_kitchen_state, .ref a_p0_kitchen_places, .ref a_p0_kitchen_holders, .ref a_p0_kitchen_stirred])), (a_p0_kitchen_rules, .inr (6, [.int (Int32.ofInt i_p0_kitchen_rules_seats), .int (Int32.ofInt i_p0_kitchen_rules_stirs), .ref a_p0_kitchen_rules_need, .ref a_p0_kitchen_rules_kind, .ref a_p0_kitchen_rules_first, .ref a_p0_kitchen_rules_second, .ref a_p0_kitchen_rules_after])), (a_p0_kitchen_rules_after, .inl (G 1, 35, .inl (zA v_p0_kitchen_rules_after))), (a_p0_kitchen_state, .inr (8, [.ref a_p0_kitchen_state_pieces, .ref a_p0_kitchen_state_friends, .ref a_p0_kitchen_state_spoons, .ref a_p0_kitchen_state_eaten, .ref a_p0_kitchen_state_seen, .int (Int32.ofInt i_p0_kitchen_state_seenDays), .int (Int32.ofInt i_p0_kitchen_state_bone), .int (Int32.ofInt i_p0_kitchen_state_king), .int (Int32.ofInt i_p0_kitchen_state_days)])), (a_p0_kitchen_state_friends, .inl (G 1, 7, .inl (zA v_p0_kitchen_state_friends))), (a_p0_kitchen_places, .inl (G 1, 49, .inl (zA w1))), (a_p0_kitchen_holders, .inl (G 1, 49, .inl (zA w2))), (a_p0_good, .inl (G 2, 11, .inr (.inl (zL w4)))), (a_p0_row, .inl (G 1, 10, .inl (zA v_p0_row)))]) hx hb hK hP hD hS 8 2 rfl rfl hc dX5_planReign_16 (fun _ => rfl) (fun w4 ez H locs hP hD hS => ?_)
  replace hf := bnd_s hf ez
  clear ez hc
  refine lv_iconst (v := Int32.ofInt (0 : Int)) hx hb dX5_planReign_17 (by decide) ?_
  refine z_topi (fun z5 ez => ?_)
  replace hf := bnd_s hf ez
  clear ez
  refine lv_istore_n (lv' := [(2, .int (Int32.ofInt z5)), (0, .ref a_p0), (1, .int (Int32.ofInt x1))]) hx hb dX5_planReign_18 rfl hl (by decide) rfl (fun ls hl => ?_)
  refine lv_iconst (v := Int32.ofInt (1 : Int)) hx hb dX5_planReign_19 (by decide) ?_
  refine z_topi (fun z6 ez => ?_)
  replace hf := bnd_s hf ez
  clear ez
  refine lv_istore_n (lv' := [(3, .int (Int32.ofInt z6)), (2, .int (Int32.ofInt z5)), (0, .ref a_p0), (1, .int (Int32.ofInt x1))]) hx hb dX5_planReign_20 rfl hl (by decide) rfl (fun ls hl => ?_)
  have hq := jn_i hf
  clear hf
  obtain ⟨J9, eJ9, hf⟩ := hq
  have hJ9 : ∀ (z7 : Int) (w8 : (Int → Int)) (ls : Array Slot) (H : Heap) (locs : List Loc), lv_has ls 4 [(2, .int (Int32.ofInt z7)), (0, .ref a_p0)] → va_P D vwCl [(a_p0, .inr (5, [.ref a_p0_kitchen, .ref a_p0_good, .ref a_p0_row])), (a_p0_kitchen, .inr (2, [.ref a_p0_kitchen_rules, .ref a_p0_kitchen_state, .ref a_p0_kitchen_places, .ref a_p0_kitchen_holders, .ref a_p0_kitchen_stirred])), (a_p0_kitchen_rules, .inr (6, [.int (Int32.ofInt i_p0_kitchen_rules_seats), .int (Int32.ofInt i_p0_kitchen_rules_stirs), .ref a_p0_kitchen_rules_need, .ref a_p0_kitchen_rules_kind, .ref a_p0_kitchen_rules_first, .ref a_p0_kitchen_rules_second, .ref a_p0_kitchen_rules_after])), (a_p0_kitchen_rules_after, .inl (G 1, 35, .inl (zA v_p0_kitchen_rules_after))), (a_p0_kitchen_state, .inr (8, [.ref a_p0_kitchen_state_pieces, .ref a_p0_kitchen_state_friends, .ref a_p0_kitchen_state_spoons, .ref a_p0_kitchen_state_eaten, .ref a_p0_kitchen_state_seen, .int (Int32.ofInt i_p0_kitchen_state_seenDays), .int (Int32.ofInt i_p0_kitchen_state_bone), .int (Int32.ofInt i_p0_kitchen_state_king), .int (Int32.ofInt i_p0_kitchen_state_days)])), (a_p0_kitchen_state_friends, .inl (G 1, 7, .inl (zA v_p0_kitchen_state_friends))), (a_p0_kitchen_places, .inl (G 1, 49, .inl (zA w1))), (a_p0_kitchen_holders, .inl (G 1, 49, .inl (zA w2))), (a_p0_good, .inl (G 2, 11, .inr (.inl (zL w8)))), (a_p0_row, .inl (G 1, 10, .inl (zA v_p0_row)))] H → va_D A [(a_p0, .inr (5, [.ref a_p0_kitchen, .ref a_p0_good, .ref a_p0_row])), (a_p0_kitchen, .inr (2, [.ref a_p0_kitchen_rules, .ref a_p0_kitchen_state, .ref a_p0_kitchen_places, .ref a_p0_kitchen_holders, .ref a_p0_kitchen_stirred])), (a_p0_kitchen_rules, .inr (6, [.int (Int32.ofInt i_p0_kitchen_rules_seats), .int (Int32.ofInt i_p0_kitchen_rules_stirs), .ref a_p0_kitchen_rules_need, .ref a_p0_kitchen_rules_kind, .ref a_p0_kitchen_rules_first, .ref a_p0_kitchen_rules_second, .ref a_p0_kitchen_rules_after])), (a_p0_kitchen_rules_after, .inl (G 1, 35, .inl (zA v_p0_kitchen_rules_after))), (a_p0_kitchen_state, .inr (8, [.ref a_p0_kitchen_state_pieces, .ref a_p0_kitchen_state_friends, .ref a_p0_kitchen_state_spoons, .ref a_p0_kitchen_state_eaten, .ref a_p0_kitchen_state_seen, .int (Int32.ofInt i_p0_kitchen_state_seenDays), .int (Int32.ofInt i_p0_kitchen_state_bone), .int (Int32.ofInt i_p0_kitchen_state_king), .int (Int32.ofInt i_p0_kitchen_state_days)])), (a_p0_kitchen_state_friends, .inl (G 1, 7, .inl (zA v_p0_kitchen_state_friends))), (a_p0_kitchen_places, .inl (G 1, 49, .inl (zA w1))), (a_p0_kitchen_holders, .inl (G 1, 49, .inl (zA w2))), (a_p0_good, .inl (G 2, 11, .inr (.inl (zL w8)))), (a_p0_row, .inl (G 1, 10, .inl (zA v_p0_row)))] → va_S A s.heap H locs → J9 z7 w8 = some (r, o_v_p0_kitchen_places, o_v_p0_kitchen_holders, o_v_p0_good, o_v_p0_row) → W p l e rm_X5_planReign s m ([.ref a_p0, .int (Int32.ofInt x1)] : List Value).toArray below meth c H locs 0 0 Q (F0 m 61 ls []) := by
    clear hf hl hP hD hS
    intro z7 w8 ls H locs hl hP hD hS hf
    replace hf := jn2_s eJ9 hf
    refine lv_aload_n hx hb dX5_planReign_61 rfl (lv_at hl 1 rfl) ?_
    refine lv_iload_n hx hb dX5_planReign_62 rfl (lv_at hl 0 rfl) ?_
    refine lv_iconst (v := Int32.ofInt (1 : Int)) hx hb dX5_planReign_63 (by decide) ?_
    have hq := bd1_s hf
    clear hf
    obtain ⟨w10, hcall, hf⟩ := hq
    refine gsV (ws' := [(a_p0, .inr (5, [.ref a_p0_kitchen, .ref a_p0_good, .ref a_p0_row])), (a_p0_kitchen, .inr (2, [.ref a_p0_kitchen_rules, .ref a_p0_kitchen_state, .ref a_p0_kitchen_places, .ref a_p0_kitchen_holders, .ref a_p0_kitchen_stirred])), (a_p0_kitchen_rules, .inr (6, [.int (Int32.ofInt i_p0_kitchen_rules_seats), .int (Int32.ofInt i_p0_kitchen_rules_stirs), .ref a_p0_kitchen_rules_need, .ref a_p0_kitchen_rules_kind, .ref a_p0_kitchen_rules_first, .ref a_p0_kitchen_rules_second, .ref a_p0_kitchen_rules_after])), (a_p0_kitchen_rules_after, .inl (G 1, 35, .inl (zA v_p0_kitchen_rules_after))), (a_p0_kitchen_state, .inr (8, [.ref a_p0_kitchen_state_pieces, .ref a_p0_kitchen_state_friends, .ref a_p0_kitchen_state_spoons, .ref a_p0_kitchen_state_eaten, .ref a_p0_kitchen_state_seen, .int (Int32.ofInt i_p0_kitchen_state_seenDays), .int (Int32.ofInt i_p0_kitchen_state_bone), .int (Int32.ofInt i_p0_kitchen_state_king), .int (Int32.ofInt i_p0_kitchen_state_days)])), (a_p0_kitchen_state_friends, .inl (G 1, 7, .inl (zA v_p0_kitchen_state_friends))), (a_p0_kitchen_places, .inl (G 1, 49, .inl (zA w1))), (a_p0_kitchen_holders, .inl (G 1, 49, .inl (zA w2))), (a_p0_good, .inl (G 2, 11, .inr (.inl (zL w8)))), (a_p0_row, .inl (G 1, 10, .inl (zA w10)))]) (va_runV (As := [.int (Int32.ofInt z7), .int (Int32.ofInt (1 : Int))]) (rest := []) ⟨hx, hb, hml, hown, hts⟩ (c_X5_tellRow (l := l) (D := D) (G := G) (sz := H.size) (a_p0 := a_p0) (a_p0_kitchen := a_p0_kitchen) (a_p0_good := a_p0_good) (a_p0_row := a_p0_row) (a_p0_kitchen_rules := a_p0_kitchen_rules) (a_p0_kitchen_state := a_p0_kitchen_state) (a_p0_kitchen_places := a_p0_kitchen_places) (a_p0_kitchen_holders := a_p0_kitchen_holders) (a_p0_kitchen_stirred := a_p0_kitchen_stirred) (a_p0_kitchen_rules_need := a_p0_kitchen_rules_need) (a_p0_kitchen_rules_kind := a_p0_kitchen_rules_kind) (a_p0_kitchen_rules_first := a_p0_kitchen_rules_first) (a_p0_kitchen_rules_second := a_p0_kitchen_rules_second) (a_p0_kitchen_rules_after := a_p0_kitchen_rules_after) (a_p0_kitchen_state_pieces := a_p0_kitchen_state_pieces) (a_p0_kitchen_state_friends := a_p0_kitchen_state_friends) (a_p0_kitchen_state_spoons := a_p0_kitchen_state_spoons) (a_p0_kitchen_state_eaten := a_p0_kitchen_state_eaten) (a_p0_kitchen_state_seen := a_p0_kitchen_state_seen) (i_p0_kitchen_rules_seats := i_p0_kitchen_rules_seats) (i_p0_kitchen_rules_stirs := i_p0_kitchen_rules_stirs) (v_p0_kitchen_rules_after := v_p0_kitchen_rules_after) (i_p0_kitchen_state_seenDays := i_p0_kitchen_state_seenDays) (i_p0_kitchen_state_bone := i_p0_kitchen_state_bone) (i_p0_kitchen_state_king := i_p0_kitchen_state_king) (i_p0_kitchen_state_days := i_p0_kitchen_state_days) (v_p0_kitchen_holders := w2) (v_p0_good := w8) (v_p0_row := v_p0_row) (x1 := z7) (x2 := (1 : Int)) (o_v_p0_row := w10) (hf := hcall)) (cwV 2 hts gX5_planReign_X5_tellRow rfl rfl rfl hdV_yX5_tellRow_RX5 ⟨Nat.le_of_ble_eq_true rfl, Nat.le_of_ble_eq_true rfl⟩) (preG_V (ci := 5) (q := (RX5, TX5, 3)) (hP.sub [0, 1, 2, 3, 4, 7, 8, 9] rfl) (hD.sub [0, 1, 2, 3, 4, 7, 8, 9] rfl rfl) hK rfl rfl) rfl rfl hl.1 rfl (lv_room (Nat.le_of_ble_eq_true rfl)) dX5_planReign_64 ⟨Nat.le_of_ble_eq_true rfl, Nat.le_of_ble_eq_true rfl⟩) hP hD hS hA [0, 1, 2, 3, 4, 7, 8, 9] rfl rfl rfl (fun H locs hP hD hS => ?_)
    clear hcall
    refine lv_iload_n hx hb dX5_planReign_67 rfl (lv_at hl 0 rfl) ?_
    obtain ⟨rfl, rfl, rfl, rfl, rfl⟩ := ou5 hf
    rw [hQ]
    exact W.iret hx hb hr (fun t ht hW => ⟨⟨_, (), rfl, rfl, by rw [ht]; exact hP, va_K.moved hW.alike hK, hD⟩, hS.F ht⟩) hS.2.2 dX5_planReign_68
  have hq := lq3_i hf
  clear hf
  obtain ⟨B14, eB14, NB14, hf⟩ := hq
  have hB14 : ∀ (n : Nat) (z11 : Int) (z12 : Int) (w13 : (Int → Int)) (ls : Array Slot) (H : Heap) (locs : List Loc), lv_has ls 4 [(3, .int (Int32.ofInt z11)), (2, .int (Int32.ofInt z12)), (0, .ref a_p0), (1, .int (Int32.ofInt x1))] → va_P D vwCl [(a_p0, .inr (5, [.ref a_p0_kitchen, .ref a_p0_good, .ref a_p0_row])), (a_p0_kitchen, .inr (2, [.ref a_p0_kitchen_rules, .ref a_p0_kitchen_state, .ref a_p0_kitchen_places, .ref a_p0_kitchen_holders, .ref a_p0_kitchen_stirred])), (a_p0_kitchen_rules, .inr (6, [.int (Int32.ofInt i_p0_kitchen_rules_seats), .int (Int32.ofInt i_p0_kitchen_rules_stirs), .ref a_p0_kitchen_rules_need, .ref a_p0_kitchen_rules_kind, .ref a_p0_kitchen_rules_first, .ref a_p0_kitchen_rules_second, .ref a_p0_kitchen_rules_after])), (a_p0_kitchen_rules_after, .inl (G 1, 35, .inl (zA v_p0_kitchen_rules_after))), (a_p0_kitchen_state, .inr (8, [.ref a_p0_kitchen_state_pieces, .ref a_p0_kitchen_state_friends, .ref a_p0_kitchen_state_spoons, .ref a_p0_kitchen_state_eaten, .ref a_p0_kitchen_state_seen, .int (Int32.ofInt i_p0_kitchen_state_seenDays), .int (Int32.ofInt i_p0_kitchen_state_bone), .int (Int32.ofInt i_p0_kitchen_state_king), .int (Int32.ofInt i_p0_kitchen_state_days)])), (a_p0_kitchen_state_friends, .inl (G 1, 7, .inl (zA v_p0_kitchen_state_friends))), (a_p0_kitchen_places, .inl (G 1, 49, .inl (zA w1))), (a_p0_kitchen_holders, .inl (G 1, 49, .inl (zA w2))), (a_p0_good, .inl (G 2, 11, .inr (.inl (zL w13)))), (a_p0_row, .inl (G 1, 10, .inl (zA v_p0_row)))] H → va_D A [(a_p0, .inr (5, [.ref a_p0_kitchen, .ref a_p0_good, .ref a_p0_row])), (a_p0_kitchen, .inr (2, [.ref a_p0_kitchen_rules, .ref a_p0_kitchen_state, .ref a_p0_kitchen_places, .ref a_p0_kitchen_holders, .ref a_p0_kitchen_stirred])), (a_p0_kitchen_rules, .inr (6, [.int (Int32.ofInt i_p0_kitchen_rules_seats), .int (Int32.ofInt i_p0_kitchen_rules_stirs), .ref a_p0_kitchen_rules_need, .ref a_p0_kitchen_rules_kind, .ref a_p0_kitchen_rules_first, .ref a_p0_kitchen_rules_second, .ref a_p0_kitchen_rules_after])), (a_p0_kitchen_rules_after, .inl (G 1, 35, .inl (zA v_p0_kitchen_rules_after))), (a_p0_kitchen_state, .inr (8, [.ref a_p0_kitchen_state_pieces, .ref a_p0_kitchen_state_friends, .ref a_p0_kitchen_state_spoons, .ref a_p0_kitchen_state_eaten, .ref a_p0_kitchen_state_seen, .int (Int32.ofInt i_p0_kitchen_state_seenDays), .int (Int32.ofInt i_p0_kitchen_state_bone), .int (Int32.ofInt i_p0_kitchen_state_king), .int (Int32.ofInt i_p0_kitchen_state_days)])), (a_p0_kitchen_state_friends, .inl (G 1, 7, .inl (zA v_p0_kitchen_state_friends))), (a_p0_kitchen_places, .inl (G 1, 49, .inl (zA w1))), (a_p0_kitchen_holders, .inl (G 1, 49, .inl (zA w2))), (a_p0_good, .inl (G 2, 11, .inr (.inl (zL w13)))), (a_p0_row, .inl (G 1, 10, .inl (zA v_p0_row)))] → va_S A s.heap H locs → lq3 B14 n z11 z12 w13 = some (r, o_v_p0_kitchen_places, o_v_p0_kitchen_holders, o_v_p0_good, o_v_p0_row) → W p l e rm_X5_planReign s m ([.ref a_p0, .int (Int32.ofInt x1)] : List Value).toArray below meth c H locs 0 0 Q (F0 m 21 ls []) := by
    clear hf hl hP hD hS
    intro n
    induction n with
    | zero =>
      intro z11 z12 w13 ls H locs hl hP hD hS hf
      exact (lq3_0 hf).elim
    | succ n ih21 =>
      intro z11 z12 w13 ls H locs hl hP hD hS hf
      replace hf := lq3_s eB14 hf
      unfold B_X5_planReign_21 at hf
      refine lv_iload_n hx hb dX5_planReign_21 rfl (lv_at hl 0 rfl) ?_
      refine lv_iload_n hx hb dX5_planReign_22 rfl (lv_at hl 3 rfl) ?_
      have hr14 := ck_c hf
      replace hf := ck_r hf
      have hr15 := ck_c hf
      replace hf := ck_r hf
      refine lv_icmp_gt (tgt := 61) hx hb dX5_planReign_23 (by decide) (fun cc => ?_) (fun cc => ?_)
      ·
        replace hf := ite_t ((z_lt hr15 hr14).mp cc) hf
        clear cc
        exact hJ9 _ _ _ _ _ (lv_sub hl [1, 2] rfl) hP hD hS hf
      ·
        replace hf := ite_f (fun h9 => cc ((z_lt hr15 hr14).mpr h9)) hf
        clear cc
        refine lv_aload_n hx hb dX5_planReign_26 rfl (lv_at hl 2 rfl) ?_
        refine va_get (D := D) (ci := 5) (v := .ref a_p0_good) (C := RX5) (T := TX5) (N := 3) hx hb hts inX5_planReign_X5 hown hK hP 0 rfl rfl 1 (by decide) (hts _ mwX5_planReign_2) (fun _ h9 => h9) rfl dX5_planReign_27 ?_
        refine lv_iload_n hx hb dX5_planReign_30 rfl (lv_at hl 0 rfl) ?_
        refine lv_aload_n hx hb dX5_planReign_31 rfl (lv_at hl 2 rfl) ?_
        refine lv_aload_n hx hb dX5_planReign_32 rfl (lv_at hl 2 rfl) ?_
        refine va_get (D := D) (ci := 5) (v := .ref a_p0_good) (C := RX5) (T := TX5) (N := 3) hx hb hts inX5_planReign_X5 hown hK hP 0 rfl rfl 1 (by decide) (hts _ mwX5_planReign_2) (fun _ h9 => h9) rfl dX5_planReign_33 ?_
        refine lv_iload_n hx hb dX5_planReign_36 rfl (lv_at hl 0 rfl) ?_
        refine lv_iconst (v := Int32.ofInt (1 : Int)) hx hb dX5_planReign_37 (by decide) ?_
        refine lv_isub hx hb dX5_planReign_38 (z_ci (Int32.ofInt_sub z11 (1 : Int)) ?_)
        have hc := ck_c hf
        replace hf := ck_r hf
        refine va_lald hx hb hK hP 8 2 rfl rfl (z_ix_in hc) dX5_planReign_39 (z_cl (z_aldL w13 hc) ?_)
        clear hc
        refine lv_iconst (v := Int32.ofInt (1 : Int)) hx hb dX5_planReign_40 (by decide) ?_
        have hq := bd1_s hf
        clear hf
        obtain ⟨z17, hcall, hf⟩ := hq
        refine gnL (va_runV (As := [.long (Int64.ofInt (w13 (z11 - (1 : Int)))), .int (Int32.ofInt (1 : Int))]) (rest := [.int (Int32.ofInt z11), .ref a_p0_good]) ⟨hx, hb, hml, hown, hts⟩ (c_X5_pairsBefore (l := l) (D := D) (G := G) (sz := H.size) (a_p0 := a_p0) (a_p0_kitchen := a_p0_kitchen) (a_p0_good := a_p0_good) (a_p0_row := a_p0_row) (a_p0_kitchen_rules := a_p0_kitchen_rules) (a_p0_kitchen_state := a_p0_kitchen_state) (a_p0_kitchen_places := a_p0_kitchen_places) (a_p0_kitchen_holders := a_p0_kitchen_holders) (a_p0_kitchen_stirred := a_p0_kitchen_stirred) (a_p0_kitchen_rules_need := a_p0_kitchen_rules_need) (a_p0_kitchen_rules_kind := a_p0_kitchen_rules_kind) (a_p0_kitchen_rules_first := a_p0_kitchen_rules_first) (a_p0_kitchen_rules_second := a_p0_kitchen_rules_second) (a_p0_kitchen_rules_after := a_p0_kitchen_rules_after) (i_p0_kitchen_rules_seats := i_p0_kitchen_rules_seats) (i_p0_kitchen_rules_stirs := i_p0_kitchen_rules_stirs) (v_p0_kitchen_rules_after := v_p0_kitchen_rules_after) (v_p0_kitchen_holders := w2) (x1 := (w13 (z11 - (1 : Int)))) (x3 := (1 : Int)) (r := z17) (hf := hcall)) (cwV 2 hts gX5_planReign_X5_pairsBefore rfl rfl rfl hdV_yX5_pairsBefore_RX5 ⟨Nat.le_of_ble_eq_true rfl, Nat.le_of_ble_eq_true rfl⟩) (preG_V (ci := 5) (q := (RX5, TX5, 3)) (hP.sub [0, 1, 2, 3, 7] rfl) (hD.sub [0, 1, 2, 3, 7] rfl rfl) hK rfl rfl) rfl rfl hl.1 rfl (lv_room (Nat.le_of_ble_eq_true rfl)) dX5_planReign_41 ⟨Nat.le_of_ble_eq_true rfl, Nat.le_of_ble_eq_true rfl⟩) hP hD hS hA [0, 1, 2, 3, 7] rfl (fun H locs hP hD hS => ?_)
        clear hcall
        have hc := ck_c hf
        replace hf := ck_r hf
        refine zs_last (wf := fun w18 => [(a_p0, .inr (5, [.ref a_p0_kitchen, .ref a_p0_good, .ref a_p0_row])), (a_p0_kitchen, .inr (2, [.ref a_p0_kitchen_rules, .ref a_p0_kitchen_state, .ref a_p0_kitchen_places, .ref a_p0_kitchen_holders, .ref a_p0_kitchen_stirred])), (a_p0_kitchen_rules, .inr (6, [.int (Int32.ofInt i_p0_kitchen_rules_seats), .int (Int32.ofInt i_p0_kitchen_rules_stirs), .ref a_p0_kitchen_rules_need, .ref a_p0_kitchen_rules_kind, .ref a_p0_kitchen_rules_first, .ref a_p0_kitchen_rules_second, .ref a_p0_kitchen_rules_after])), (a_p0_kitchen_rules_after, .inl (G 1, 35, .inl (zA v_p0_kitchen_rules_after))), (a_p0_kitchen_state, .inr (8, [.ref a_p0_kitchen_state_pieces, .ref a_p0_kitchen_state_friends, .ref a_p0_kitchen_state_spoons, .ref a_p0_kitchen_state_eaten, .ref a_p0_kitchen_state_seen, .int (Int32.ofInt i_p0_kitchen_state_seenDays), .int (Int32.ofInt i_p0_kitchen_state_bone), .int (Int32.ofInt i_p0_kitchen_state_king), .int (Int32.ofInt i_p0_kitchen_state_days)])), (a_p0_kitchen_state_friends, .inl (G 1, 7, .inl (zA v_p0_kitchen_state_friends))), (a_p0_kitchen_places, .inl (G 1, 49, .inl (zA w1))), (a_p0_kitchen_holders, .inl (G 1, 49, .inl (zA w2))), (a_p0_good, .inl (G 2, 11, .inr (.inl (zL w18)))), (a_p0_row, .inl (G 1, 10, .inl (zA v_p0_row)))]) hx hb hK hP hD hS 8 2 rfl rfl hc dX5_planReign_44 (fun _ => rfl) (fun w18 ez H locs hP hD hS => ?_)
        replace hf := bnd_s hf ez
        clear ez hc
        refine lv_aload_n hx hb dX5_planReign_45 rfl (lv_at hl 2 rfl) ?_
        refine lv_iload_n hx hb dX5_planReign_46 rfl (lv_at hl 0 rfl) ?_
        have hq := bd1_s hf
        clear hf
        obtain ⟨z19, hcall, hf⟩ := hq
        refine gnI (va_runV (As := [.int (Int32.ofInt z11)]) (rest := []) ⟨hx, hb, hml, hown, hts⟩ (c_X5_isGoodNow (l := l) (D := D) (G := G) (sz := H.size) (a_p0 := a_p0) (a_p0_kitchen := a_p0_kitchen) (a_p0_good := a_p0_good) (a_p0_row := a_p0_row) (a_p0_kitchen_rules := a_p0_kitchen_rules) (a_p0_kitchen_state := a_p0_kitchen_state) (a_p0_kitchen_places := a_p0_kitchen_places) (a_p0_kitchen_holders := a_p0_kitchen_holders) (a_p0_kitchen_stirred := a_p0_kitchen_stirred) (a_p0_kitchen_state_pieces := a_p0_kitchen_state_pieces) (a_p0_kitchen_state_friends := a_p0_kitchen_state_friends) (a_p0_kitchen_state_spoons := a_p0_kitchen_state_spoons) (a_p0_kitchen_state_eaten := a_p0_kitchen_state_eaten) (a_p0_kitchen_state_seen := a_p0_kitchen_state_seen) (i_p0_kitchen_state_seenDays := i_p0_kitchen_state_seenDays) (i_p0_kitchen_state_bone := i_p0_kitchen_state_bone) (i_p0_kitchen_state_king := i_p0_kitchen_state_king) (i_p0_kitchen_state_days := i_p0_kitchen_state_days) (v_p0_good := w18) (x1 := z11) (r := z19) (hf := hcall)) (cwV 1 hts gX5_planReign_X5_isGoodNow rfl rfl rfl hdV_yX5_isGoodNow_RX5 ⟨Nat.le_of_ble_eq_true rfl, Nat.le_of_ble_eq_true rfl⟩) (preG_V (ci := 5) (q := (RX5, TX5, 3)) (hP.sub [0, 1, 4, 8] rfl) (hD.sub [0, 1, 4, 8] rfl rfl) hK rfl rfl) rfl rfl hl.1 rfl (lv_room (Nat.le_of_ble_eq_true rfl)) dX5_planReign_47 ⟨Nat.le_of_ble_eq_true rfl, Nat.le_of_ble_eq_true rfl⟩) hP hD hS hA [0, 1, 4, 8] rfl (fun H locs hP hD hS => ?_)
        clear hcall
        have hr19 := ck_c hf
        replace hf := ck_r hf
        refine lv_if_eq (tgt := 55) hx hb dX5_planReign_50 (by decide) (fun cc => ?_) (fun cc => ?_)
        ·
          replace hf := ite_t ((z_eq0 hr19).mp cc) hf
          clear cc
          obtain ⟨z21, ez⟩ : ∃ y : Int, y = (z11 + (1 : Int)) := ⟨_, rfl⟩
          replace hf := bnd_s hf ez
          refine lv_iinc (v := Int32.ofInt z21) (lv' := [(3, .int (Int32.ofInt z21)), (2, .int (Int32.ofInt z12)), (0, .ref a_p0), (1, .int (Int32.ofInt x1))]) hx hb dX5_planReign_55 hl (k := 0) rfl (by rw [ez]; exact (Int32.ofInt_add _ _).symm) (by decide) rfl (fun ls hl => ?_)
          clear ez
          refine lv_goto (tgt := 21) hx hb dX5_planReign_58 (by decide) ?_
          exact ih21 _ _ _ _ _ _ (lv_sub hl [0, 1, 2, 3] rfl) hP hD hS hf
        ·
          replace hf := ite_f (fun h9 => cc ((z_eq0 hr19).mpr h9)) hf
          clear cc
          refine lv_iload_n hx hb dX5_planReign_53 rfl (lv_at hl 0 rfl) ?_
          refine z_topi (fun z22 ez => ?_)
          replace hf := bnd_s hf ez
          clear ez
          refine lv_istore_n (lv' := [(2, .int (Int32.ofInt z22)), (3, .int (Int32.ofInt z11)), (0, .ref a_p0), (1, .int (Int32.ofInt x1))]) hx hb dX5_planReign_54 rfl hl (by decide) rfl (fun ls hl => ?_)
          obtain ⟨z23, ez⟩ : ∃ y : Int, y = (z11 + (1 : Int)) := ⟨_, rfl⟩
          replace hf := bnd_s hf ez
          refine lv_iinc (v := Int32.ofInt z23) (lv' := [(3, .int (Int32.ofInt z23)), (2, .int (Int32.ofInt z22)), (0, .ref a_p0), (1, .int (Int32.ofInt x1))]) hx hb dX5_planReign_55 hl (k := 1) rfl (by rw [ez]; exact (Int32.ofInt_add _ _).symm) (by decide) rfl (fun ls hl => ?_)
          clear ez
          refine lv_goto (tgt := 21) hx hb dX5_planReign_58 (by decide) ?_
          exact ih21 _ _ _ _ _ _ (lv_sub hl [0, 1, 2, 3] rfl) hP hD hS hf
  exact hB14 _ _ _ _ _ _ _ (lv_sub hl [0, 1, 2, 3] rfl) hP hD hS hf

noncomputable def B_X5_planRaise_20 (w1 : (Int → Int)) (w2 : (Int → Int)) (v_p0_row : (Int → Int)) (i_p0_kitchen_state_bone : Int) (i_p0_kitchen_state_king : Int) (J8 : Int → (Int → Int) → Option (Int × (Int → Int) × (Int → Int) × (Int → Int) × (Int → Int))) (i_p0_kitchen_rules_seats : Int) (i_p0_kitchen_rules_stirs : Int) (v_p0_kitchen_rules_after : (Int → Int)) (again20 : Int → (Int → Int) → Option (Int × (Int → Int) × (Int → Int) × (Int → Int) × (Int → Int))) (z10 : Int) (w11 : (Int → Int)) : Option (Int × (Int → Int) × (Int → Int) × (Int → Int) × (Int → Int)) := (ck (z_r32 z10) (if (10 : Int) < z10 then (some ((-4 : Int), w1, w2, w11, v_p0_row)) else (if z10 ≤ (0 : Int) then (bd1 (f_X5_isGoodNow i_p0_kitchen_state_bone i_p0_kitchen_state_king w11 z10) (fun (z14 : Int) => (ck (z_r32 z14) (if z14 = (0 : Int) then (bnd (z10 + (1 : Int)) (fun (z16 : Int) => (again20 z16 w11))) else (J8 z10 w11))))) else (ck (z_ix (z10 - (1 : Int)) 11) (bd1 (f_X5_pairsBefore i_p0_kitchen_rules_seats i_p0_kitchen_rules_stirs v_p0_kitchen_rules_after w2 (w11 (z10 - (1 : Int))) (0 : Int)) (fun (z17 : Int) => (ck (z_ix z10 11) (bnd (z_up w11 z10 z17) (fun (w18 : (Int → Int)) => (bd1 (f_X5_isGoodNow i_p0_kitchen_state_bone i_p0_kitchen_state_king w18 z10) (fun (z19 : Int) => (ck (z_r32 z19) (if z19 = (0 : Int) then (bnd (z10 + (1 : Int)) (fun (z21 : Int) => (again20 z21 w18))) else (J8 z10 w18))))))))))))))
noncomputable def f_X5_planRaise (i_p0_kitchen_rules_seats : Int) (i_p0_kitchen_rules_stirs : Int) (v_p0_kitchen_rules_after : (Int → Int)) (i_p0_kitchen_state_bone : Int) (i_p0_kitchen_state_king : Int) (v_p0_kitchen_state_friends : (Int → Int)) (v_p0_kitchen_places : (Int → Int)) (v_p0_kitchen_holders : (Int → Int)) (v_p0_good : (Int → Int)) (v_p0_row : (Int → Int)) (x1 : Int) : Option (Int × (Int → Int) × (Int → Int) × (Int → Int) × (Int → Int)) := (bd2 (f_X2_serveAllKings i_p0_kitchen_rules_seats v_p0_kitchen_state_friends v_p0_kitchen_places v_p0_kitchen_holders) (fun (w1 : (Int → Int)) (w2 : (Int → Int)) => (bd1 (f_X5_pairsOfKing i_p0_kitchen_rules_seats x1) (fun (z3 : Int) => (ck (z_ix (0 : Int) 11) (bnd (z_up v_p0_good (0 : Int) z3) (fun (w4 : (Int → Int)) => (bnd (0 : Int) (fun (z5 : Int) => (jn (fun (z6 : Int) (w7 : (Int → Int)) => (bd1 (f_X5_tellRow i_p0_kitchen_rules_stirs v_p0_kitchen_rules_after i_p0_kitchen_state_bone i_p0_kitchen_state_king w2 w7 v_p0_row z6 (0 : Int)) (fun (w9 : (Int → Int)) => (some (z6, w1, w2, w7, w9))))) (fun (J8 : Int → (Int → Int) → Option (Int × (Int → Int) × (Int → Int) × (Int → Int) × (Int → Int))) => (lq2 (B_X5_planRaise_20 w1 w2 v_p0_row i_p0_kitchen_state_bone i_p0_kitchen_state_king J8 i_p0_kitchen_rules_seats i_p0_kitchen_rules_stirs v_p0_kitchen_rules_after) 1000 z5 w4))))))))))))
abbrev rm_X5_planRaise : Room := { frames := 3, cells := 0, slots := 0, locals := 77 }
theorem inX5_planRaise_X5 : ∀ w ∈ wsX50, w ∈ wsX5_planRaise := by first | exact fun w h => List.mem_cons_of_mem _ (List.mem_append_left _ (List.mem_append_left _ (List.mem_append_left _ (List.mem_append_right _ h)))) | decide +kernel
theorem mwX5_planRaise_1 : Cond.fieldLink RX5 19 "LadleKings$Plans" "kitchen" "LLadleKings$Kitchen;" ∈ wsX5_planRaise := by first | exact List.mem_of_getElem? (i := 1) rfl | decide +kernel
theorem mwX5_planRaise_2 : Cond.fieldLink RX5 9 "LadleKings$Plans" "good" "[J" ∈ wsX5_planRaise := by first | exact List.mem_of_getElem? (i := 2) rfl | decide +kernel
set_option maxHeartbeats 8000000 in
set_option maxRecDepth 100000 in
theorem c_X5_planRaise (l : Launch) (D : va_G) (G : Nat → ClassId) (sz : Nat) (a_p0 : Nat) (a_p0_kitchen : Nat) (a_p0_good : Nat) (a_p0_row : Nat) (a_p0_kitchen_rules : Nat) (a_p0_kitchen_state : Nat) (a_p0_kitchen_places : Nat) (a_p0_kitchen_holders : Nat) (a_p0_kitchen_stirred : Nat) (a_p0_kitchen_rules_need : Nat) (a_p0_kitchen_rules_kind : Nat) (a_p0_kitchen_rules_first : Nat) (a_p0_kitchen_rules_second : Nat) (a_p0_kitchen_rules_after : Nat) (a_p0_kitchen_state_pieces : Nat) (a_p0_kitchen_state_friends : Nat) (a_p0_kitchen_state_spoons : Nat) (a_p0_kitchen_state_eaten : Nat) (a_p0_kitchen_state_seen : Nat) (i_p0_kitchen_rules_seats : Int) (i_p0_kitchen_rules_stirs : Int) (v_p0_kitchen_rules_after : (Int → Int)) (i_p0_kitchen_state_seenDays : Int) (i_p0_kitchen_state_bone : Int) (i_p0_kitchen_state_king : Int) (i_p0_kitchen_state_days : Int) (v_p0_kitchen_state_friends : (Int → Int)) (v_p0_kitchen_places : (Int → Int)) (v_p0_kitchen_holders : (Int → Int)) (v_p0_good : (Int → Int)) (v_p0_row : (Int → Int)) (x1 : Int) (r : Int) (o_v_p0_kitchen_places : (Int → Int)) (o_v_p0_kitchen_holders : (Int → Int)) (o_v_p0_good : (Int → Int)) (o_v_p0_row : (Int → Int)) (hf : f_X5_planRaise i_p0_kitchen_rules_seats i_p0_kitchen_rules_stirs v_p0_kitchen_rules_after i_p0_kitchen_state_bone i_p0_kitchen_state_king v_p0_kitchen_state_friends v_p0_kitchen_places v_p0_kitchen_holders v_p0_good v_p0_row x1 = some (r, o_v_p0_kitchen_places, o_v_p0_kitchen_holders, o_v_p0_good, o_v_p0_row)) : Met l yX5_planRaise wsX5_planRaise rm_X5_planRaise (pcG D G [.ref a_p0, .int (Int32.ofInt x1)] sz [(a_p0, .inr (5, [.ref a_p0_kitchen, .ref a_p0_good, .ref a_p0_row])), (a_p0_kitchen, .inr (2, [.ref a_p0_kitchen_rules, .ref a_p0_kitchen_state, .ref a_p0_kitchen_places, .ref a_p0_kitchen_holders, .ref a_p0_kitchen_stirred])), (a_p0_kitchen_rules, .inr (6, [.int (Int32.ofInt i_p0_kitchen_rules_seats), .int (Int32.ofInt i_p0_kitchen_rules_stirs), .ref a_p0_kitchen_rules_need, .ref a_p0_kitchen_rules_kind, .ref a_p0_kitchen_rules_first, .ref a_p0_kitchen_rules_second, .ref a_p0_kitchen_rules_after])), (a_p0_kitchen_rules_after, .inl (G 1, 35, .inl (zA v_p0_kitchen_rules_after))), (a_p0_kitchen_state, .inr (8, [.ref a_p0_kitchen_state_pieces, .ref a_p0_kitchen_state_friends, .ref a_p0_kitchen_state_spoons, .ref a_p0_kitchen_state_eaten, .ref a_p0_kitchen_state_seen, .int (Int32.ofInt i_p0_kitchen_state_seenDays), .int (Int32.ofInt i_p0_kitchen_state_bone), .int (Int32.ofInt i_p0_kitchen_state_king), .int (Int32.ofInt i_p0_kitchen_state_days)])), (a_p0_kitchen_state_friends, .inl (G 1, 7, .inl (zA v_p0_kitchen_state_friends))), (a_p0_kitchen_places, .inl (G 1, 49, .inl (zA v_p0_kitchen_places))), (a_p0_kitchen_holders, .inl (G 1, 49, .inl (zA v_p0_kitchen_holders))), (a_p0_good, .inl (G 2, 11, .inr (.inl (zL v_p0_good)))), (a_p0_row, .inl (G 1, 10, .inl (zA v_p0_row)))]) (qcI D G (Int32.ofInt r) [(a_p0, .inr (5, [.ref a_p0_kitchen, .ref a_p0_good, .ref a_p0_row])), (a_p0_kitchen, .inr (2, [.ref a_p0_kitchen_rules, .ref a_p0_kitchen_state, .ref a_p0_kitchen_places, .ref a_p0_kitchen_holders, .ref a_p0_kitchen_stirred])), (a_p0_kitchen_rules, .inr (6, [.int (Int32.ofInt i_p0_kitchen_rules_seats), .int (Int32.ofInt i_p0_kitchen_rules_stirs), .ref a_p0_kitchen_rules_need, .ref a_p0_kitchen_rules_kind, .ref a_p0_kitchen_rules_first, .ref a_p0_kitchen_rules_second, .ref a_p0_kitchen_rules_after])), (a_p0_kitchen_rules_after, .inl (G 1, 35, .inl (zA v_p0_kitchen_rules_after))), (a_p0_kitchen_state, .inr (8, [.ref a_p0_kitchen_state_pieces, .ref a_p0_kitchen_state_friends, .ref a_p0_kitchen_state_spoons, .ref a_p0_kitchen_state_eaten, .ref a_p0_kitchen_state_seen, .int (Int32.ofInt i_p0_kitchen_state_seenDays), .int (Int32.ofInt i_p0_kitchen_state_bone), .int (Int32.ofInt i_p0_kitchen_state_king), .int (Int32.ofInt i_p0_kitchen_state_days)])), (a_p0_kitchen_state_friends, .inl (G 1, 7, .inl (zA v_p0_kitchen_state_friends))), (a_p0_kitchen_places, .inl (G 1, 49, .inl (zA o_v_p0_kitchen_places))), (a_p0_kitchen_holders, .inl (G 1, 49, .inl (zA o_v_p0_kitchen_holders))), (a_p0_good, .inl (G 2, 11, .inr (.inl (zL o_v_p0_good)))), (a_p0_row, .inl (G 1, 10, .inl (zA o_v_p0_row)))] (va_A [(a_p0, .inr (5, [.ref a_p0_kitchen, .ref a_p0_good, .ref a_p0_row])), (a_p0_kitchen, .inr (2, [.ref a_p0_kitchen_rules, .ref a_p0_kitchen_state, .ref a_p0_kitchen_places, .ref a_p0_kitchen_holders, .ref a_p0_kitchen_stirred])), (a_p0_kitchen_rules, .inr (6, [.int (Int32.ofInt i_p0_kitchen_rules_seats), .int (Int32.ofInt i_p0_kitchen_rules_stirs), .ref a_p0_kitchen_rules_need, .ref a_p0_kitchen_rules_kind, .ref a_p0_kitchen_rules_first, .ref a_p0_kitchen_rules_second, .ref a_p0_kitchen_rules_after])), (a_p0_kitchen_rules_after, .inl (G 1, 35, .inl (zA v_p0_kitchen_rules_after))), (a_p0_kitchen_state, .inr (8, [.ref a_p0_kitchen_state_pieces, .ref a_p0_kitchen_state_friends, .ref a_p0_kitchen_state_spoons, .ref a_p0_kitchen_state_eaten, .ref a_p0_kitchen_state_seen, .int (Int32.ofInt i_p0_kitchen_state_seenDays), .int (Int32.ofInt i_p0_kitchen_state_bone), .int (Int32.ofInt i_p0_kitchen_state_king), .int (Int32.ofInt i_p0_kitchen_state_days)])), (a_p0_kitchen_state_friends, .inl (G 1, 7, .inl (zA v_p0_kitchen_state_friends))), (a_p0_kitchen_places, .inl (G 1, 49, .inl (zA v_p0_kitchen_places))), (a_p0_kitchen_holders, .inl (G 1, 49, .inl (zA v_p0_kitchen_holders))), (a_p0_good, .inl (G 2, 11, .inr (.inl (zL v_p0_good)))), (a_p0_row, .inl (G 1, 10, .inl (zA v_p0_row)))] sz)) 0 0 (va_A [(a_p0, .inr (5, [.ref a_p0_kitchen, .ref a_p0_good, .ref a_p0_row])), (a_p0_kitchen, .inr (2, [.ref a_p0_kitchen_rules, .ref a_p0_kitchen_state, .ref a_p0_kitchen_places, .ref a_p0_kitchen_holders, .ref a_p0_kitchen_stirred])), (a_p0_kitchen_rules, .inr (6, [.int (Int32.ofInt i_p0_kitchen_rules_seats), .int (Int32.ofInt i_p0_kitchen_rules_stirs), .ref a_p0_kitchen_rules_need, .ref a_p0_kitchen_rules_kind, .ref a_p0_kitchen_rules_first, .ref a_p0_kitchen_rules_second, .ref a_p0_kitchen_rules_after])), (a_p0_kitchen_rules_after, .inl (G 1, 35, .inl (zA v_p0_kitchen_rules_after))), (a_p0_kitchen_state, .inr (8, [.ref a_p0_kitchen_state_pieces, .ref a_p0_kitchen_state_friends, .ref a_p0_kitchen_state_spoons, .ref a_p0_kitchen_state_eaten, .ref a_p0_kitchen_state_seen, .int (Int32.ofInt i_p0_kitchen_state_seenDays), .int (Int32.ofInt i_p0_kitchen_state_bone), .int (Int32.ofInt i_p0_kitchen_state_king), .int (Int32.ofInt i_p0_kitchen_state_days)])), (a_p0_kitchen_state_friends, .inl (G 1, 7, .inl (zA v_p0_kitchen_state_friends))), (a_p0_kitchen_places, .inl (G 1, 49, .inl (zA v_p0_kitchen_places))), (a_p0_kitchen_holders, .inl (G 1, 49, .inl (zA v_p0_kitchen_holders))), (a_p0_good, .inl (G 2, 11, .inr (.inl (zL v_p0_good)))), (a_p0_row, .inl (G 1, 10, .inl (zA v_p0_row)))] sz) := by
  refine Met.ofW (cc := cX5_planRaise) (maxL := 3) (ret := (some .int)) (by decide) rfl ?_
  intro p e s m args below meth c s₁ B hml hv
  obtain ⟨rfl, hsz, hP, hK, hD0⟩ := hv
  have hx := B.exec
  have hb := B.bytes
  have hr := B.returns
  have hts := atoms_spec (ws := wsX5_planRaise) B.pre
  have hown : s.vm.findClass RX5 = some m.cls := findClass_of_methodNamed B.named
  have hlocks := B.notSynchronized
  subst hsz
  have hD := hD0.self (sz := s.heap.size)
  generalize hAe : va_A [(a_p0, .inr (5, [.ref a_p0_kitchen, .ref a_p0_good, .ref a_p0_row])), (a_p0_kitchen, .inr (2, [.ref a_p0_kitchen_rules, .ref a_p0_kitchen_state, .ref a_p0_kitchen_places, .ref a_p0_kitchen_holders, .ref a_p0_kitchen_stirred])), (a_p0_kitchen_rules, .inr (6, [.int (Int32.ofInt i_p0_kitchen_rules_seats), .int (Int32.ofInt i_p0_kitchen_rules_stirs), .ref a_p0_kitchen_rules_need, .ref a_p0_kitchen_rules_kind, .ref a_p0_kitchen_rules_first, .ref a_p0_kitchen_rules_second, .ref a_p0_kitchen_rules_after])), (a_p0_kitchen_rules_after, .inl (G 1, 35, .inl (zA v_p0_kitchen_rules_after))), (a_p0_kitchen_state, .inr (8, [.ref a_p0_kitchen_state_pieces, .ref a_p0_kitchen_state_friends, .ref a_p0_kitchen_state_spoons, .ref a_p0_kitchen_state_eaten, .ref a_p0_kitchen_state_seen, .int (Int32.ofInt i_p0_kitchen_state_seenDays), .int (Int32.ofInt i_p0_kitchen_state_bone), .int (Int32.ofInt i_p0_kitchen_state_king), .int (Int32.ofInt i_p0_kitchen_state_days)])), (a_p0_kitchen_state_friends, .inl (G 1, 7, .inl (zA v_p0_kitchen_state_friends))), (a_p0_kitchen_places, .inl (G 1, 49, .inl (zA v_p0_kitchen_places))), (a_p0_kitchen_holders, .inl (G 1, 49, .inl (zA v_p0_kitchen_holders))), (a_p0_good, .inl (G 2, 11, .inr (.inl (zL v_p0_good)))), (a_p0_row, .inl (G 1, 10, .inl (zA v_p0_row)))] s.heap.size = A at hD ⊢
  have hA : ∀ q : Nat, s.heap.size ≤ q → A q := fun q h => by rw [← hAe]; exact Or.inr h
  clear hAe hD0
  have hS : va_S A s.heap s.heap [] := va_S.rf
  have hl := lv_entry ([.ref a_p0, .int (Int32.ofInt x1)]) (n := 3) (Nat.le_of_ble_eq_true rfl)
  rw [lg_entry_eq]
  generalize (lg_sl ([.ref a_p0, .int (Int32.ofInt x1)]) ++ List.replicate (3 - (lg_sl ([.ref a_p0, .int (Int32.ofInt x1)])).length) Slot.unset).toArray = ls at hl ⊢
  have hl : lv_has ls 3 [(0, .ref a_p0), (1, .int (Int32.ofInt x1))] := hl
  refine W_nameQ (fun Q hQ => ?_)
  obtain ⟨H, hH⟩ : ∃ H, H = s.heap := ⟨_, rfl⟩
  replace hS : va_S A s.heap H [] := by rw [hH]; exact hS
  replace hP : va_P D vwCl [(a_p0, .inr (5, [.ref a_p0_kitchen, .ref a_p0_good, .ref a_p0_row])), (a_p0_kitchen, .inr (2, [.ref a_p0_kitchen_rules, .ref a_p0_kitchen_state, .ref a_p0_kitchen_places, .ref a_p0_kitchen_holders, .ref a_p0_kitchen_stirred])), (a_p0_kitchen_rules, .inr (6, [.int (Int32.ofInt i_p0_kitchen_rules_seats), .int (Int32.ofInt i_p0_kitchen_rules_stirs), .ref a_p0_kitchen_rules_need, .ref a_p0_kitchen_rules_kind, .ref a_p0_kitchen_rules_first, .ref a_p0_kitchen_rules_second, .ref a_p0_kitchen_rules_after])), (a_p0_kitchen_rules_after, .inl (G 1, 35, .inl (zA v_p0_kitchen_rules_after))), (a_p0_kitchen_state, .inr (8, [.ref a_p0_kitchen_state_pieces, .ref a_p0_kitchen_state_friends, .ref a_p0_kitchen_state_spoons, .ref a_p0_kitchen_state_eaten, .ref a_p0_kitchen_state_seen, .int (Int32.ofInt i_p0_kitchen_state_seenDays), .int (Int32.ofInt i_p0_kitchen_state_bone), .int (Int32.ofInt i_p0_kitchen_state_king), .int (Int32.ofInt i_p0_kitchen_state_days)])), (a_p0_kitchen_state_friends, .inl (G 1, 7, .inl (zA v_p0_kitchen_state_friends))), (a_p0_kitchen_places, .inl (G 1, 49, .inl (zA v_p0_kitchen_places))), (a_p0_kitchen_holders, .inl (G 1, 49, .inl (zA v_p0_kitchen_holders))), (a_p0_good, .inl (G 2, 11, .inr (.inl (zL v_p0_good)))), (a_p0_row, .inl (G 1, 10, .inl (zA v_p0_row)))] H := by rw [hH]; exact hP
  rw [← hH]
  clear hH
  unfold f_X5_planRaise at hf
  refine lv_aload_n hx hb dX5_planRaise_0 rfl (lv_at hl 0 rfl) ?_
  refine va_get (D := D) (ci := 5) (v := .ref a_p0_kitchen) (C := RX5) (T := TX5) (N := 3) hx hb hts inX5_planRaise_X5 hown hK hP 0 rfl rfl 0 (by decide) (hts _ mwX5_planRaise_1) (fun _ h9 => h9) rfl dX5_planRaise_1 ?_
  have hq := bd2_s hf
  clear hf
  obtain ⟨w1, w2, hcall, hf⟩ := hq
  refine gsV (ws' := [(a_p0, .inr (5, [.ref a_p0_kitchen, .ref a_p0_good, .ref a_p0_row])), (a_p0_kitchen, .inr (2, [.ref a_p0_kitchen_rules, .ref a_p0_kitchen_state, .ref a_p0_kitchen_places, .ref a_p0_kitchen_holders, .ref a_p0_kitchen_stirred])), (a_p0_kitchen_rules, .inr (6, [.int (Int32.ofInt i_p0_kitchen_rules_seats), .int (Int32.ofInt i_p0_kitchen_rules_stirs), .ref a_p0_kitchen_rules_need, .ref a_p0_kitchen_rules_kind, .ref a_p0_kitchen_rules_first, .ref a_p0_kitchen_rules_second, .ref a_p0_kitchen_rules_after])), (a_p0_kitchen_rules_after, .inl (G 1, 35, .inl (zA v_p0_kitchen_rules_after))), (a_p0_kitchen_state, .inr (8, [.ref a_p0_kitchen_state_pieces, .ref a_p0_kitchen_state_friends, .ref a_p0_kitchen_state_spoons, .ref a_p0_kitchen_state_eaten, .ref a_p0_kitchen_state_seen, .int (Int32.ofInt i_p0_kitchen_state_seenDays), .int (Int32.ofInt i_p0_kitchen_state_bone), .int (Int32.ofInt i_p0_kitchen_state_king), .int (Int32.ofInt i_p0_kitchen_state_days)])), (a_p0_kitchen_state_friends, .inl (G 1, 7, .inl (zA v_p0_kitchen_state_friends))), (a_p0_kitchen_places, .inl (G 1, 49, .inl (zA w1))), (a_p0_kitchen_holders, .inl (G 1, 49, .inl (zA w2))), (a_p0_good, .inl (G 2, 11, .inr (.inl (zL v_p0_good)))), (a_p0_row, .inl (G 1, 10, .inl (zA v_p0_row)))]) (va_runV (As := []) (rest := []) ⟨hx, hb, hml, hown, hts⟩ (c_X2_serveAllKings (l := l) (D := D) (G := G) (sz := H.size) (a_p0 := a_p0_kitchen) (a_p0_rules := a_p0_kitchen_rules) (a_p0_state := a_p0_kitchen_state) (a_p0_places := a_p0_kitchen_places) (a_p0_holders := a_p0_kitchen_holders) (a_p0_stirred := a_p0_kitchen_stirred) (a_p0_rules_need := a_p0_kitchen_rules_need) (a_p0_rules_kind := a_p0_kitchen_rules_kind) (a_p0_rules_first := a_p0_kitchen_rules_first) (a_p0_rules_second := a_p0_kitchen_rules_second) (a_p0_rules_after := a_p0_kitchen_rules_after) (a_p0_state_pieces := a_p0_kitchen_state_pieces) (a_p0_state_friends := a_p0_kitchen_state_friends) (a_p0_state_spoons := a_p0_kitchen_state_spoons) (a_p0_state_eaten := a_p0_kitchen_state_eaten) (a_p0_state_seen := a_p0_kitchen_state_seen) (i_p0_rules_seats := i_p0_kitchen_rules_seats) (i_p0_rules_stirs := i_p0_kitchen_rules_stirs) (i_p0_state_seenDays := i_p0_kitchen_state_seenDays) (i_p0_state_bone := i_p0_kitchen_state_bone) (i_p0_state_king := i_p0_kitchen_state_king) (i_p0_state_days := i_p0_kitchen_state_days) (v_p0_state_friends := v_p0_kitchen_state_friends) (v_p0_places := v_p0_kitchen_places) (v_p0_holders := v_p0_kitchen_holders) (o_v_p0_places := w1) (o_v_p0_holders := w2) (hf := hcall)) (cwV 0 hts gX5_planRaise_X2_serveAllKings rfl rfl rfl hdV_yX2_serveAllKings_RX2 ⟨Nat.le_of_ble_eq_true rfl, Nat.le_of_ble_eq_true rfl⟩) (preG_V (ci := 2) (q := (RX2, TX2, 5)) (hP.sub [1, 2, 4, 5, 6, 7] rfl) (hD.sub [1, 2, 4, 5, 6, 7] rfl rfl) hK rfl rfl) rfl rfl hl.1 rfl (lv_room (Nat.le_of_ble_eq_true rfl)) dX5_planRaise_4 ⟨Nat.le_of_ble_eq_true rfl, Nat.le_of_ble_eq_true rfl⟩) hP hD hS hA [1, 2, 4, 5, 6, 7] rfl rfl rfl (fun H locs hP hD hS => ?_)
  clear hcall
  refine lv_aload_n hx hb dX5_planRaise_7 rfl (lv_at hl 0 rfl) ?_
  refine va_get (D := D) (ci := 5) (v := .ref a_p0_good) (C := RX5) (T := TX5) (N := 3) hx hb hts inX5_planRaise_X5 hown hK hP 0 rfl rfl 1 (by decide) (hts _ mwX5_planRaise_2) (fun _ h9 => h9) rfl dX5_planRaise_8 ?_
  refine lv_iconst (v := Int32.ofInt (0 : Int)) hx hb dX5_planRaise_11 (by decide) ?_
  refine lv_aload_n hx hb dX5_planRaise_12 rfl (lv_at hl 0 rfl) ?_
  refine lv_iload_n hx hb dX5_planRaise_13 rfl (lv_at hl 1 rfl) ?_
  have hq := bd1_s hf
  clear hf
  obtain ⟨z3, hcall, hf⟩ := hq
  refine gnL (va_runV (As := [.int (Int32.ofInt x1)]) (rest := [.int (Int32.ofInt (0 : Int)), .ref a_p0_good]) ⟨hx, hb, hml, hown, hts⟩ (c_X5_pairsOfKing (l := l) (D := D) (G := G) (sz := H.size) (a_p0 := a_p0) (a_p0_kitchen := a_p0_kitchen) (a_p0_good := a_p0_good) (a_p0_row := a_p0_row) (a_p0_kitchen_rules := a_p0_kitchen_rules) (a_p0_kitchen_state := a_p0_kitchen_state) (a_p0_kitchen_places := a_p0_kitchen_places) (a_p0_kitchen_holders := a_p0_kitchen_holders) (a_p0_kitchen_stirred := a_p0_kitchen_stirred) (a_p0_kitchen_rules_need := a_p0_kitchen_rules_need) (a_p0_kitchen_rules_kind := a_p0_kitchen_rules_kind) (a_p0_kitchen_rules_first := a_p0_kitchen_rules_first) (a_p0_kitchen_rules_second := a_p0_kitchen_rules_second) (a_p0_kitchen_rules_after := a_p0_kitchen_rules_after) (i_p0_kitchen_rules_seats := i_p0_kitchen_rules_seats) (i_p0_kitchen_rules_stirs := i_p0_kitchen_rules_stirs) (x1 := x1) (r := z3) (hf := hcall)) (cwV 1 hts gX5_planRaise_X5_pairsOfKing rfl rfl rfl hdV_yX5_pairsOfKing_RX5 ⟨Nat.le_of_ble_eq_true rfl, Nat.le_of_ble_eq_true rfl⟩) (preG_V (ci := 5) (q := (RX5, TX5, 3)) (hP.sub [0, 1, 2] rfl) (hD.sub [0, 1, 2] rfl rfl) hK rfl rfl) rfl rfl hl.1 rfl (lv_room (Nat.le_of_ble_eq_true rfl)) dX5_planRaise_14 ⟨Nat.le_of_ble_eq_true rfl, Nat.le_of_ble_eq_true rfl⟩) hP hD hS hA [0, 1, 2] rfl (fun H locs hP hD hS => ?_)
  clear hcall
  have hc := ck_c hf
  replace hf := ck_r hf
  refine zs_last (wf := fun w4 => [(a_p0, .inr (5, [.ref a_p0_kitchen, .ref a_p0_good, .ref a_p0_row])), (a_p0_kitchen, .inr (2, [.ref a_p0_kitchen_rules, .ref a_p0_kitchen_state, .ref a_p0_kitchen_places, .ref a_p0_kitchen_holders, .ref a_p0_kitchen_stirred])), (a_p0_kitchen_rules, .inr (6, [.int (Int32.ofInt i_p0_kitchen_rules_seats), .int (Int32.ofInt i_p0_kitchen_rules_stirs), .ref a_p0_kitchen_rules_need, .ref a_p0_kitchen_rules_kind, .ref a_p0_kitchen_rules_first, .ref a_p0_kitchen_rules_second, .ref a_p0_kitchen_rules_after])), (a_p0_kitchen_rules_after, .inl (G 1, 35, .inl (zA v_p0_kitchen_rules_after))), (a_p0_kitchen_state, .inr (8, [.ref a_p0_kitchen_state_pieces, .ref a_p0_kitchen_state_friends, .ref a_p0_kitchen_state_spoons, .ref a_p0_kitchen_state_eaten, .ref a_p0_kitchen_state_seen, .int (Int32.ofInt i_p0_kitchen_state_seenDays), .int (Int32.ofInt i_p0_kitchen_state_bone), .int (Int32.ofInt i_p0_kitchen_state_king), .int (Int32.ofInt i_p0_kitchen_state_days)])), (a_p0_kitchen_state_friends, .inl (G 1, 7, .inl (zA v_p0_kitchen_state_friends))), (a_p0_kitchen_places, .inl (G 1, 49, .inl (zA w1))), (a_p0_kitchen_holders, .inl (G 1, 49, .inl (zA w2))), (a_p0_good, .inl (G 2, 11, .inr (.inl (zL w4)))), (a_p0_row, .inl (G 1, 10, .inl (zA v_p0_row)))]) hx hb hK hP hD hS 8 2 rfl rfl hc dX5_planRaise_17 (fun _ => rfl) (fun w4 ez H locs hP hD hS => ?_)
  replace hf := bnd_s hf ez
  clear ez hc
  refine lv_iconst (v := Int32.ofInt (0 : Int)) hx hb dX5_planRaise_18 (by decide) ?_
  refine z_topi (fun z5 ez => ?_)
  replace hf := bnd_s hf ez
  clear ez
  refine lv_istore_n (lv' := [(2, .int (Int32.ofInt z5)), (0, .ref a_p0), (1, .int (Int32.ofInt x1))]) hx hb dX5_planRaise_19 rfl hl (by decide) rfl (fun ls hl => ?_)
  have hq := jn_i hf
  clear hf
  obtain ⟨J8, eJ8, hf⟩ := hq
  have hJ8 : ∀ (z6 : Int) (w7 : (Int → Int)) (ls : Array Slot) (H : Heap) (locs : List Loc), lv_has ls 3 [(2, .int (Int32.ofInt z6)), (0, .ref a_p0)] → va_P D vwCl [(a_p0, .inr (5, [.ref a_p0_kitchen, .ref a_p0_good, .ref a_p0_row])), (a_p0_kitchen, .inr (2, [.ref a_p0_kitchen_rules, .ref a_p0_kitchen_state, .ref a_p0_kitchen_places, .ref a_p0_kitchen_holders, .ref a_p0_kitchen_stirred])), (a_p0_kitchen_rules, .inr (6, [.int (Int32.ofInt i_p0_kitchen_rules_seats), .int (Int32.ofInt i_p0_kitchen_rules_stirs), .ref a_p0_kitchen_rules_need, .ref a_p0_kitchen_rules_kind, .ref a_p0_kitchen_rules_first, .ref a_p0_kitchen_rules_second, .ref a_p0_kitchen_rules_after])), (a_p0_kitchen_rules_after, .inl (G 1, 35, .inl (zA v_p0_kitchen_rules_after))), (a_p0_kitchen_state, .inr (8, [.ref a_p0_kitchen_state_pieces, .ref a_p0_kitchen_state_friends, .ref a_p0_kitchen_state_spoons, .ref a_p0_kitchen_state_eaten, .ref a_p0_kitchen_state_seen, .int (Int32.ofInt i_p0_kitchen_state_seenDays), .int (Int32.ofInt i_p0_kitchen_state_bone), .int (Int32.ofInt i_p0_kitchen_state_king), .int (Int32.ofInt i_p0_kitchen_state_days)])), (a_p0_kitchen_state_friends, .inl (G 1, 7, .inl (zA v_p0_kitchen_state_friends))), (a_p0_kitchen_places, .inl (G 1, 49, .inl (zA w1))), (a_p0_kitchen_holders, .inl (G 1, 49, .inl (zA w2))), (a_p0_good, .inl (G 2, 11, .inr (.inl (zL w7)))), (a_p0_row, .inl (G 1, 10, .inl (zA v_p0_row)))] H → va_D A [(a_p0, .inr (5, [.ref a_p0_kitchen, .ref a_p0_good, .ref a_p0_row])), (a_p0_kitchen, .inr (2, [.ref a_p0_kitchen_rules, .ref a_p0_kitchen_state, .ref a_p0_kitchen_places, .ref a_p0_kitchen_holders, .ref a_p0_kitchen_stirred])), (a_p0_kitchen_rules, .inr (6, [.int (Int32.ofInt i_p0_kitchen_rules_seats), .int (Int32.ofInt i_p0_kitchen_rules_stirs), .ref a_p0_kitchen_rules_need, .ref a_p0_kitchen_rules_kind, .ref a_p0_kitchen_rules_first, .ref a_p0_kitchen_rules_second, .ref a_p0_kitchen_rules_after])), (a_p0_kitchen_rules_after, .inl (G 1, 35, .inl (zA v_p0_kitchen_rules_after))), (a_p0_kitchen_state, .inr (8, [.ref a_p0_kitchen_state_pieces, .ref a_p0_kitchen_state_friends, .ref a_p0_kitchen_state_spoons, .ref a_p0_kitchen_state_eaten, .ref a_p0_kitchen_state_seen, .int (Int32.ofInt i_p0_kitchen_state_seenDays), .int (Int32.ofInt i_p0_kitchen_state_bone), .int (Int32.ofInt i_p0_kitchen_state_king), .int (Int32.ofInt i_p0_kitchen_state_days)])), (a_p0_kitchen_state_friends, .inl (G 1, 7, .inl (zA v_p0_kitchen_state_friends))), (a_p0_kitchen_places, .inl (G 1, 49, .inl (zA w1))), (a_p0_kitchen_holders, .inl (G 1, 49, .inl (zA w2))), (a_p0_good, .inl (G 2, 11, .inr (.inl (zL w7)))), (a_p0_row, .inl (G 1, 10, .inl (zA v_p0_row)))] → va_S A s.heap H locs → J8 z6 w7 = some (r, o_v_p0_kitchen_places, o_v_p0_kitchen_holders, o_v_p0_good, o_v_p0_row) → W p l e rm_X5_planRaise s m ([.ref a_p0, .int (Int32.ofInt x1)] : List Value).toArray below meth c H locs 0 0 Q (F0 m 57 ls []) := by
    clear hf hl hP hD hS
    intro z6 w7 ls H locs hl hP hD hS hf
    replace hf := jn2_s eJ8 hf
    refine lv_aload_n hx hb dX5_planRaise_57 rfl (lv_at hl 1 rfl) ?_
    refine lv_iload_n hx hb dX5_planRaise_58 rfl (lv_at hl 0 rfl) ?_
    refine lv_iconst (v := Int32.ofInt (0 : Int)) hx hb dX5_planRaise_59 (by decide) ?_
    have hq := bd1_s hf
    clear hf
    obtain ⟨w9, hcall, hf⟩ := hq
    refine gsV (ws' := [(a_p0, .inr (5, [.ref a_p0_kitchen, .ref a_p0_good, .ref a_p0_row])), (a_p0_kitchen, .inr (2, [.ref a_p0_kitchen_rules, .ref a_p0_kitchen_state, .ref a_p0_kitchen_places, .ref a_p0_kitchen_holders, .ref a_p0_kitchen_stirred])), (a_p0_kitchen_rules, .inr (6, [.int (Int32.ofInt i_p0_kitchen_rules_seats), .int (Int32.ofInt i_p0_kitchen_rules_stirs), .ref a_p0_kitchen_rules_need, .ref a_p0_kitchen_rules_kind, .ref a_p0_kitchen_rules_first, .ref a_p0_kitchen_rules_second, .ref a_p0_kitchen_rules_after])), (a_p0_kitchen_rules_after, .inl (G 1, 35, .inl (zA v_p0_kitchen_rules_after))), (a_p0_kitchen_state, .inr (8, [.ref a_p0_kitchen_state_pieces, .ref a_p0_kitchen_state_friends, .ref a_p0_kitchen_state_spoons, .ref a_p0_kitchen_state_eaten, .ref a_p0_kitchen_state_seen, .int (Int32.ofInt i_p0_kitchen_state_seenDays), .int (Int32.ofInt i_p0_kitchen_state_bone), .int (Int32.ofInt i_p0_kitchen_state_king), .int (Int32.ofInt i_p0_kitchen_state_days)])), (a_p0_kitchen_state_friends, .inl (G 1, 7, .inl (zA v_p0_kitchen_state_friends))), (a_p0_kitchen_places, .inl (G 1, 49, .inl (zA w1))), (a_p0_kitchen_holders, .inl (G 1, 49, .inl (zA w2))), (a_p0_good, .inl (G 2, 11, .inr (.inl (zL w7)))), (a_p0_row, .inl (G 1, 10, .inl (zA w9)))]) (va_runV (As := [.int (Int32.ofInt z6), .int (Int32.ofInt (0 : Int))]) (rest := []) ⟨hx, hb, hml, hown, hts⟩ (c_X5_tellRow (l := l) (D := D) (G := G) (sz := H.size) (a_p0 := a_p0) (a_p0_kitchen := a_p0_kitchen) (a_p0_good := a_p0_good) (a_p0_row := a_p0_row) (a_p0_kitchen_rules := a_p0_kitchen_rules) (a_p0_kitchen_state := a_p0_kitchen_state) (a_p0_kitchen_places := a_p0_kitchen_places) (a_p0_kitchen_holders := a_p0_kitchen_holders) (a_p0_kitchen_stirred := a_p0_kitchen_stirred) (a_p0_kitchen_rules_need := a_p0_kitchen_rules_need) (a_p0_kitchen_rules_kind := a_p0_kitchen_rules_kind) (a_p0_kitchen_rules_first := a_p0_kitchen_rules_first) (a_p0_kitchen_rules_second := a_p0_kitchen_rules_second) (a_p0_kitchen_rules_after := a_p0_kitchen_rules_after) (a_p0_kitchen_state_pieces := a_p0_kitchen_state_pieces) (a_p0_kitchen_state_friends := a_p0_kitchen_state_friends) (a_p0_kitchen_state_spoons := a_p0_kitchen_state_spoons) (a_p0_kitchen_state_eaten := a_p0_kitchen_state_eaten) (a_p0_kitchen_state_seen := a_p0_kitchen_state_seen) (i_p0_kitchen_rules_seats := i_p0_kitchen_rules_seats) (i_p0_kitchen_rules_stirs := i_p0_kitchen_rules_stirs) (v_p0_kitchen_rules_after := v_p0_kitchen_rules_after) (i_p0_kitchen_state_seenDays := i_p0_kitchen_state_seenDays) (i_p0_kitchen_state_bone := i_p0_kitchen_state_bone) (i_p0_kitchen_state_king := i_p0_kitchen_state_king) (i_p0_kitchen_state_days := i_p0_kitchen_state_days) (v_p0_kitchen_holders := w2) (v_p0_good := w7) (v_p0_row := v_p0_row) (x1 := z6) (x2 := (0 : Int)) (o_v_p0_row := w9) (hf := hcall)) (cwV 2 hts gX5_planRaise_X5_tellRow rfl rfl rfl hdV_yX5_tellRow_RX5 ⟨Nat.le_of_ble_eq_true rfl, Nat.le_of_ble_eq_true rfl⟩) (preG_V (ci := 5) (q := (RX5, TX5, 3)) (hP.sub [0, 1, 2, 3, 4, 7, 8, 9] rfl) (hD.sub [0, 1, 2, 3, 4, 7, 8, 9] rfl rfl) hK rfl rfl) rfl rfl hl.1 rfl (lv_room (Nat.le_of_ble_eq_true rfl)) dX5_planRaise_60 ⟨Nat.le_of_ble_eq_true rfl, Nat.le_of_ble_eq_true rfl⟩) hP hD hS hA [0, 1, 2, 3, 4, 7, 8, 9] rfl rfl rfl (fun H locs hP hD hS => ?_)
    clear hcall
    refine lv_iload_n hx hb dX5_planRaise_63 rfl (lv_at hl 0 rfl) ?_
    obtain ⟨rfl, rfl, rfl, rfl, rfl⟩ := ou5 hf
    rw [hQ]
    exact W.iret hx hb hr (fun t ht hW => ⟨⟨_, (), rfl, rfl, by rw [ht]; exact hP, va_K.moved hW.alike hK, hD⟩, hS.F ht⟩) hS.2.2 dX5_planRaise_64
  have hq := lq2_i hf
  clear hf
  obtain ⟨B12, eB12, NB12, hf⟩ := hq
  have hB12 : ∀ (n : Nat) (z10 : Int) (w11 : (Int → Int)) (ls : Array Slot) (H : Heap) (locs : List Loc), lv_has ls 3 [(2, .int (Int32.ofInt z10)), (0, .ref a_p0)] → va_P D vwCl [(a_p0, .inr (5, [.ref a_p0_kitchen, .ref a_p0_good, .ref a_p0_row])), (a_p0_kitchen, .inr (2, [.ref a_p0_kitchen_rules, .ref a_p0_kitchen_state, .ref a_p0_kitchen_places, .ref a_p0_kitchen_holders, .ref a_p0_kitchen_stirred])), (a_p0_kitchen_rules, .inr (6, [.int (Int32.ofInt i_p0_kitchen_rules_seats), .int (Int32.ofInt i_p0_kitchen_rules_stirs), .ref a_p0_kitchen_rules_need, .ref a_p0_kitchen_rules_kind, .ref a_p0_kitchen_rules_first, .ref a_p0_kitchen_rules_second, .ref a_p0_kitchen_rules_after])), (a_p0_kitchen_rules_after, .inl (G 1, 35, .inl (zA v_p0_kitchen_rules_after))), (a_p0_kitchen_state, .inr (8, [.ref a_p0_kitchen_state_pieces, .ref a_p0_kitchen_state_friends, .ref a_p0_kitchen_state_spoons, .ref a_p0_kitchen_state_eaten, .ref a_p0_kitchen_state_seen, .int (Int32.ofInt i_p0_kitchen_state_seenDays), .int (Int32.ofInt i_p0_kitchen_state_bone), .int (Int32.ofInt i_p0_kitchen_state_king), .int (Int32.ofInt i_p0_kitchen_state_days)])), (a_p0_kitchen_state_friends, .inl (G 1, 7, .inl (zA v_p0_kitchen_state_friends))), (a_p0_kitchen_places, .inl (G 1, 49, .inl (zA w1))), (a_p0_kitchen_holders, .inl (G 1, 49, .inl (zA w2))), (a_p0_good, .inl (G 2, 11, .inr (.inl (zL w11)))), (a_p0_row, .inl (G 1, 10, .inl (zA v_p0_row)))] H → va_D A [(a_p0, .inr (5, [.ref a_p0_kitchen, .ref a_p0_good, .ref a_p0_row])), (a_p0_kitchen, .inr (2, [.ref a_p0_kitchen_rules, .ref a_p0_kitchen_state, .ref a_p0_kitchen_places, .ref a_p0_kitchen_holders, .ref a_p0_kitchen_stirred])), (a_p0_kitchen_rules, .inr (6, [.int (Int32.ofInt i_p0_kitchen_rules_seats), .int (Int32.ofInt i_p0_kitchen_rules_stirs), .ref a_p0_kitchen_rules_need, .ref a_p0_kitchen_rules_kind, .ref a_p0_kitchen_rules_first, .ref a_p0_kitchen_rules_second, .ref a_p0_kitchen_rules_after])), (a_p0_kitchen_rules_after, .inl (G 1, 35, .inl (zA v_p0_kitchen_rules_after))), (a_p0_kitchen_state, .inr (8, [.ref a_p0_kitchen_state_pieces, .ref a_p0_kitchen_state_friends, .ref a_p0_kitchen_state_spoons, .ref a_p0_kitchen_state_eaten, .ref a_p0_kitchen_state_seen, .int (Int32.ofInt i_p0_kitchen_state_seenDays), .int (Int32.ofInt i_p0_kitchen_state_bone), .int (Int32.ofInt i_p0_kitchen_state_king), .int (Int32.ofInt i_p0_kitchen_state_days)])), (a_p0_kitchen_state_friends, .inl (G 1, 7, .inl (zA v_p0_kitchen_state_friends))), (a_p0_kitchen_places, .inl (G 1, 49, .inl (zA w1))), (a_p0_kitchen_holders, .inl (G 1, 49, .inl (zA w2))), (a_p0_good, .inl (G 2, 11, .inr (.inl (zL w11)))), (a_p0_row, .inl (G 1, 10, .inl (zA v_p0_row)))] → va_S A s.heap H locs → lq2 B12 n z10 w11 = some (r, o_v_p0_kitchen_places, o_v_p0_kitchen_holders, o_v_p0_good, o_v_p0_row) → W p l e rm_X5_planRaise s m ([.ref a_p0, .int (Int32.ofInt x1)] : List Value).toArray below meth c H locs 0 0 Q (F0 m 20 ls []) := by
    clear hf hl hP hD hS
    intro n
    induction n with
    | zero =>
      intro z10 w11 ls H locs hl hP hD hS hf
      exact (lq2_0 hf).elim
    | succ n ih20 =>
      intro z10 w11 ls H locs hl hP hD hS hf
      replace hf := lq2_s eB12 hf
      unfold B_X5_planRaise_20 at hf
      refine lv_iload_n hx hb dX5_planRaise_20 rfl (lv_at hl 0 rfl) ?_
      refine lv_bipush (v := Int32.ofInt (10 : Int)) hx hb dX5_planRaise_21 (by decide) ?_
      have hr12 := ck_c hf
      replace hf := ck_r hf
      refine lv_icmp_gt (tgt := 71) hx hb dX5_planRaise_23 (by decide) (fun cc => ?_) (fun cc => ?_)
      ·
        replace hf := ite_t ((z_lt (by decide) hr12).mp cc) hf
        clear cc
        refine lv_bipush (v := Int32.ofInt (-4 : Int)) hx hb dX5_planRaise_71 (by decide) ?_
        obtain ⟨rfl, rfl, rfl, rfl, rfl⟩ := ou5 hf
        rw [hQ]
        exact W.iret hx hb hr (fun t ht hW => ⟨⟨_, (), rfl, rfl, by rw [ht]; exact hP, va_K.moved hW.alike hK, hD⟩, hS.F ht⟩) hS.2.2 dX5_planRaise_73
      ·
        replace hf := ite_f (fun h9 => cc ((z_lt (by decide) hr12).mpr h9)) hf
        clear cc
        refine lv_iload_n hx hb dX5_planRaise_26 rfl (lv_at hl 0 rfl) ?_
        refine lv_if_le (tgt := 49) hx hb dX5_planRaise_27 (by decide) (fun cc => ?_) (fun cc => ?_)
        ·
          replace hf := ite_t ((z_le0 hr12).mp cc) hf
          clear cc
          refine lv_aload_n hx hb dX5_planRaise_49 rfl (lv_at hl 1 rfl) ?_
          refine lv_iload_n hx hb dX5_planRaise_50 rfl (lv_at hl 0 rfl) ?_
          have hq := bd1_s hf
          clear hf
          obtain ⟨z14, hcall, hf⟩ := hq
          refine gnI (va_runV (As := [.int (Int32.ofInt z10)]) (rest := []) ⟨hx, hb, hml, hown, hts⟩ (c_X5_isGoodNow (l := l) (D := D) (G := G) (sz := H.size) (a_p0 := a_p0) (a_p0_kitchen := a_p0_kitchen) (a_p0_good := a_p0_good) (a_p0_row := a_p0_row) (a_p0_kitchen_rules := a_p0_kitchen_rules) (a_p0_kitchen_state := a_p0_kitchen_state) (a_p0_kitchen_places := a_p0_kitchen_places) (a_p0_kitchen_holders := a_p0_kitchen_holders) (a_p0_kitchen_stirred := a_p0_kitchen_stirred) (a_p0_kitchen_state_pieces := a_p0_kitchen_state_pieces) (a_p0_kitchen_state_friends := a_p0_kitchen_state_friends) (a_p0_kitchen_state_spoons := a_p0_kitchen_state_spoons) (a_p0_kitchen_state_eaten := a_p0_kitchen_state_eaten) (a_p0_kitchen_state_seen := a_p0_kitchen_state_seen) (i_p0_kitchen_state_seenDays := i_p0_kitchen_state_seenDays) (i_p0_kitchen_state_bone := i_p0_kitchen_state_bone) (i_p0_kitchen_state_king := i_p0_kitchen_state_king) (i_p0_kitchen_state_days := i_p0_kitchen_state_days) (v_p0_good := w11) (x1 := z10) (r := z14) (hf := hcall)) (cwV 1 hts gX5_planRaise_X5_isGoodNow rfl rfl rfl hdV_yX5_isGoodNow_RX5 ⟨Nat.le_of_ble_eq_true rfl, Nat.le_of_ble_eq_true rfl⟩) (preG_V (ci := 5) (q := (RX5, TX5, 3)) (hP.sub [0, 1, 4, 8] rfl) (hD.sub [0, 1, 4, 8] rfl rfl) hK rfl rfl) rfl rfl hl.1 rfl (lv_room (Nat.le_of_ble_eq_true rfl)) dX5_planRaise_51 ⟨Nat.le_of_ble_eq_true rfl, Nat.le_of_ble_eq_true rfl⟩) hP hD hS hA [0, 1, 4, 8] rfl (fun H locs hP hD hS => ?_)
          clear hcall
          have hr14 := ck_c hf
          replace hf := ck_r hf
          refine lv_if_eq (tgt := 65) hx hb dX5_planRaise_54 (by decide) (fun cc => ?_) (fun cc => ?_)
          ·
            replace hf := ite_t ((z_eq0 hr14).mp cc) hf
            clear cc
            obtain ⟨z16, ez⟩ : ∃ y : Int, y = (z10 + (1 : Int)) := ⟨_, rfl⟩
            replace hf := bnd_s hf ez
            refine lv_iinc (v := Int32.ofInt z16) (lv' := [(2, .int (Int32.ofInt z16)), (0, .ref a_p0)]) hx hb dX5_planRaise_65 hl (k := 0) rfl (by rw [ez]; exact (Int32.ofInt_add _ _).symm) (by decide) rfl (fun ls hl => ?_)
            clear ez
            refine lv_goto (tgt := 20) hx hb dX5_planRaise_68 (by decide) ?_
            exact ih20 _ _ _ _ _ (lv_sub hl [0, 1] rfl) hP hD hS hf
          ·
            replace hf := ite_f (fun h9 => cc ((z_eq0 hr14).mpr h9)) hf
            clear cc
            exact hJ8 _ _ _ _ _ (lv_sub hl [0, 1] rfl) hP hD hS hf
        ·
          replace hf := ite_f (fun h9 => cc ((z_le0 hr12).mpr h9)) hf
          clear cc
          refine lv_aload_n hx hb dX5_planRaise_30 rfl (lv_at hl 1 rfl) ?_
          refine va_get (D := D) (ci := 5) (v := .ref a_p0_good) (C := RX5) (T := TX5) (N := 3) hx hb hts inX5_planRaise_X5 hown hK hP 0 rfl rfl 1 (by decide) (hts _ mwX5_planRaise_2) (fun _ h9 => h9) rfl dX5_planRaise_31 ?_
          refine lv_iload_n hx hb dX5_planRaise_34 rfl (lv_at hl 0 rfl) ?_
          refine lv_aload_n hx hb dX5_planRaise_35 rfl (lv_at hl 1 rfl) ?_
          refine lv_aload_n hx hb dX5_planRaise_36 rfl (lv_at hl 1 rfl) ?_
          refine va_get (D := D) (ci := 5) (v := .ref a_p0_good) (C := RX5) (T := TX5) (N := 3) hx hb hts inX5_planRaise_X5 hown hK hP 0 rfl rfl 1 (by decide) (hts _ mwX5_planRaise_2) (fun _ h9 => h9) rfl dX5_planRaise_37 ?_
          refine lv_iload_n hx hb dX5_planRaise_40 rfl (lv_at hl 0 rfl) ?_
          refine lv_iconst (v := Int32.ofInt (1 : Int)) hx hb dX5_planRaise_41 (by decide) ?_
          refine lv_isub hx hb dX5_planRaise_42 (z_ci (Int32.ofInt_sub z10 (1 : Int)) ?_)
          have hc := ck_c hf
          replace hf := ck_r hf
          refine va_lald hx hb hK hP 8 2 rfl rfl (z_ix_in hc) dX5_planRaise_43 (z_cl (z_aldL w11 hc) ?_)
          clear hc
          refine lv_iconst (v := Int32.ofInt (0 : Int)) hx hb dX5_planRaise_44 (by decide) ?_
          have hq := bd1_s hf
          clear hf
          obtain ⟨z17, hcall, hf⟩ := hq
          refine gnL (va_runV (As := [.long (Int64.ofInt (w11 (z10 - (1 : Int)))), .int (Int32.ofInt (0 : Int))]) (rest := [.int (Int32.ofInt z10), .ref a_p0_good]) ⟨hx, hb, hml, hown, hts⟩ (c_X5_pairsBefore (l := l) (D := D) (G := G) (sz := H.size) (a_p0 := a_p0) (a_p0_kitchen := a_p0_kitchen) (a_p0_good := a_p0_good) (a_p0_row := a_p0_row) (a_p0_kitchen_rules := a_p0_kitchen_rules) (a_p0_kitchen_state := a_p0_kitchen_state) (a_p0_kitchen_places := a_p0_kitchen_places) (a_p0_kitchen_holders := a_p0_kitchen_holders) (a_p0_kitchen_stirred := a_p0_kitchen_stirred) (a_p0_kitchen_rules_need := a_p0_kitchen_rules_need) (a_p0_kitchen_rules_kind := a_p0_kitchen_rules_kind) (a_p0_kitchen_rules_first := a_p0_kitchen_rules_first) (a_p0_kitchen_rules_second := a_p0_kitchen_rules_second) (a_p0_kitchen_rules_after := a_p0_kitchen_rules_after) (i_p0_kitchen_rules_seats := i_p0_kitchen_rules_seats) (i_p0_kitchen_rules_stirs := i_p0_kitchen_rules_stirs) (v_p0_kitchen_rules_after := v_p0_kitchen_rules_after) (v_p0_kitchen_holders := w2) (x1 := (w11 (z10 - (1 : Int)))) (x3 := (0 : Int)) (r := z17) (hf := hcall)) (cwV 2 hts gX5_planRaise_X5_pairsBefore rfl rfl rfl hdV_yX5_pairsBefore_RX5 ⟨Nat.le_of_ble_eq_true rfl, Nat.le_of_ble_eq_true rfl⟩) (preG_V (ci := 5) (q := (RX5, TX5, 3)) (hP.sub [0, 1, 2, 3, 7] rfl) (hD.sub [0, 1, 2, 3, 7] rfl rfl) hK rfl rfl) rfl rfl hl.1 rfl (lv_room (Nat.le_of_ble_eq_true rfl)) dX5_planRaise_45 ⟨Nat.le_of_ble_eq_true rfl, Nat.le_of_ble_eq_true rfl⟩) hP hD hS hA [0, 1, 2, 3, 7] rfl (fun H locs hP hD hS => ?_)
          clear hcall
          have hc := ck_c hf
          replace hf := ck_r hf
          refine zs_last (wf := fun w18 => [(a_p0, .inr (5, [.ref a_p0_kitchen, .ref a_p0_good, .ref a_p0_row])), (a_p0_kitchen, .inr (2, [.ref a_p0_kitchen_rules, .ref a_p0_kitchen_state, .ref a_p0_kitchen_places, .ref a_p0_kitchen_holders, .ref a_p0_kitchen_stirred])), (a_p0_kitchen_rules, .inr (6, [.int (Int32.ofInt i_p0_kitchen_rules_seats), .int (Int32.ofInt i_p0_kitchen_rules_stirs), .ref a_p0_kitchen_rules_need, .ref a_p0_kitchen_rules_kind, .ref a_p0_kitchen_rules_first, .ref a_p0_kitchen_rules_second, .ref a_p0_kitchen_rules_after])), (a_p0_kitchen_rules_after, .inl (G 1, 35, .inl (zA v_p0_kitchen_rules_after))), (a_p0_kitchen_state, .inr (8, [.ref a_p0_kitchen_state_pieces, .ref a_p0_kitchen_state_friends, .ref a_p0_kitchen_state_spoons, .ref a_p0_kitchen_state_eaten, .ref a_p0_kitchen_state_seen, .int (Int32.ofInt i_p0_kitchen_state_seenDays), .int (Int32.ofInt i_p0_kitchen_state_bone), .int (Int32.ofInt i_p0_kitchen_state_king), .int (Int32.ofInt i_p0_kitchen_state_days)])), (a_p0_kitchen_state_friends, .inl (G 1, 7, .inl (zA v_p0_kitchen_state_friends))), (a_p0_kitchen_places, .inl (G 1, 49, .inl (zA w1))), (a_p0_kitchen_holders, .inl (G 1, 49, .inl (zA w2))), (a_p0_good, .inl (G 2, 11, .inr (.inl (zL w18)))), (a_p0_row, .inl (G 1, 10, .inl (zA v_p0_row)))]) hx hb hK hP hD hS 8 2 rfl rfl hc dX5_planRaise_48 (fun _ => rfl) (fun w18 ez H locs hP hD hS => ?_)
          replace hf := bnd_s hf ez
          clear ez hc
          refine lv_aload_n hx hb dX5_planRaise_49 rfl (lv_at hl 1 rfl) ?_
          refine lv_iload_n hx hb dX5_planRaise_50 rfl (lv_at hl 0 rfl) ?_
          have hq := bd1_s hf
          clear hf
          obtain ⟨z19, hcall, hf⟩ := hq
          refine gnI (va_runV (As := [.int (Int32.ofInt z10)]) (rest := []) ⟨hx, hb, hml, hown, hts⟩ (c_X5_isGoodNow (l := l) (D := D) (G := G) (sz := H.size) (a_p0 := a_p0) (a_p0_kitchen := a_p0_kitchen) (a_p0_good := a_p0_good) (a_p0_row := a_p0_row) (a_p0_kitchen_rules := a_p0_kitchen_rules) (a_p0_kitchen_state := a_p0_kitchen_state) (a_p0_kitchen_places := a_p0_kitchen_places) (a_p0_kitchen_holders := a_p0_kitchen_holders) (a_p0_kitchen_stirred := a_p0_kitchen_stirred) (a_p0_kitchen_state_pieces := a_p0_kitchen_state_pieces) (a_p0_kitchen_state_friends := a_p0_kitchen_state_friends) (a_p0_kitchen_state_spoons := a_p0_kitchen_state_spoons) (a_p0_kitchen_state_eaten := a_p0_kitchen_state_eaten) (a_p0_kitchen_state_seen := a_p0_kitchen_state_seen) (i_p0_kitchen_state_seenDays := i_p0_kitchen_state_seenDays) (i_p0_kitchen_state_bone := i_p0_kitchen_state_bone) (i_p0_kitchen_state_king := i_p0_kitchen_state_king) (i_p0_kitchen_state_days := i_p0_kitchen_state_days) (v_p0_good := w18) (x1 := z10) (r := z19) (hf := hcall)) (cwV 1 hts gX5_planRaise_X5_isGoodNow rfl rfl rfl hdV_yX5_isGoodNow_RX5 ⟨Nat.le_of_ble_eq_true rfl, Nat.le_of_ble_eq_true rfl⟩) (preG_V (ci := 5) (q := (RX5, TX5, 3)) (hP.sub [0, 1, 4, 8] rfl) (hD.sub [0, 1, 4, 8] rfl rfl) hK rfl rfl) rfl rfl hl.1 rfl (lv_room (Nat.le_of_ble_eq_true rfl)) dX5_planRaise_51 ⟨Nat.le_of_ble_eq_true rfl, Nat.le_of_ble_eq_true rfl⟩) hP hD hS hA [0, 1, 4, 8] rfl (fun H locs hP hD hS => ?_)
          clear hcall
          have hr19 := ck_c hf
          replace hf := ck_r hf
          refine lv_if_eq (tgt := 65) hx hb dX5_planRaise_54 (by decide) (fun cc => ?_) (fun cc => ?_)
          ·
            replace hf := ite_t ((z_eq0 hr19).mp cc) hf
            clear cc
            obtain ⟨z21, ez⟩ : ∃ y : Int, y = (z10 + (1 : Int)) := ⟨_, rfl⟩
            replace hf := bnd_s hf ez
            refine lv_iinc (v := Int32.ofInt z21) (lv' := [(2, .int (Int32.ofInt z21)), (0, .ref a_p0)]) hx hb dX5_planRaise_65 hl (k := 0) rfl (by rw [ez]; exact (Int32.ofInt_add _ _).symm) (by decide) rfl (fun ls hl => ?_)
            clear ez
            refine lv_goto (tgt := 20) hx hb dX5_planRaise_68 (by decide) ?_
            exact ih20 _ _ _ _ _ (lv_sub hl [0, 1] rfl) hP hD hS hf
          ·
            replace hf := ite_f (fun h9 => cc ((z_eq0 hr19).mpr h9)) hf
            clear cc
            exact hJ8 _ _ _ _ _ (lv_sub hl [0, 1] rfl) hP hD hS hf
  exact hB12 _ _ _ _ _ _ (lv_sub hl [0, 1] rfl) hP hD hS hf

noncomputable def f_X6_reset (v_p0_need : (Int → Int)) : Option (Int × Int × (Int → Int)) := (bnd (4 : Int) (fun (z1 : Int) => (bnd (0 : Int) (fun (z2 : Int) => (bd1 (f_J7_fill_53178 7 v_p0_need (0 : Int)) (fun (w3 : (Int → Int)) => (some (z1, z2, w3))))))))
abbrev rm_X6_reset : Room := { frames := 1, cells := 0, slots := 0, locals := 23 }
theorem inX6_reset_X6 : ∀ w ∈ wsX60, w ∈ wsX6_reset := by first | exact fun w h => List.mem_cons_of_mem _ (List.mem_append_right _ h) | decide +kernel
theorem mwX6_reset_1 : Cond.fieldLink RX6 9 "LadleKings$Rules" "seats" "I" ∈ wsX6_reset := by first | exact List.mem_of_getElem? (i := 1) rfl | decide +kernel
theorem mwX6_reset_2 : Cond.fieldLink RX6 15 "LadleKings$Rules" "stirs" "I" ∈ wsX6_reset := by first | exact List.mem_of_getElem? (i := 2) rfl | decide +kernel
theorem mwX6_reset_3 : Cond.fieldLink RX6 18 "LadleKings$Rules" "need" "[I" ∈ wsX6_reset := by first | exact List.mem_of_getElem? (i := 3) rfl | decide +kernel
set_option maxHeartbeats 8000000 in
set_option maxRecDepth 100000 in
theorem c_X6_reset (l : Launch) (D : va_G) (G : Nat → ClassId) (sz : Nat) (a_p0 : Nat) (a_p0_need : Nat) (a_p0_kind : Nat) (a_p0_first : Nat) (a_p0_second : Nat) (a_p0_after : Nat) (i_p0_seats : Int) (i_p0_stirs : Int) (v_p0_need : (Int → Int)) (o_i_p0_seats : Int) (o_i_p0_stirs : Int) (o_v_p0_need : (Int → Int)) (hf : f_X6_reset v_p0_need = some (o_i_p0_seats, o_i_p0_stirs, o_v_p0_need)) : Met l yX6_reset wsX6_reset rm_X6_reset (pcG D G [.ref a_p0] sz [(a_p0, .inr (6, [.int (Int32.ofInt i_p0_seats), .int (Int32.ofInt i_p0_stirs), .ref a_p0_need, .ref a_p0_kind, .ref a_p0_first, .ref a_p0_second, .ref a_p0_after])), (a_p0_need, .inl (G 1, 7, .inl (zA v_p0_need)))]) (qcV D G [(a_p0, .inr (6, [.int (Int32.ofInt o_i_p0_seats), .int (Int32.ofInt o_i_p0_stirs), .ref a_p0_need, .ref a_p0_kind, .ref a_p0_first, .ref a_p0_second, .ref a_p0_after])), (a_p0_need, .inl (G 1, 7, .inl (zA o_v_p0_need)))] (va_A [(a_p0, .inr (6, [.int (Int32.ofInt i_p0_seats), .int (Int32.ofInt i_p0_stirs), .ref a_p0_need, .ref a_p0_kind, .ref a_p0_first, .ref a_p0_second, .ref a_p0_after])), (a_p0_need, .inl (G 1, 7, .inl (zA v_p0_need)))] sz)) 0 0 (va_A [(a_p0, .inr (6, [.int (Int32.ofInt i_p0_seats), .int (Int32.ofInt i_p0_stirs), .ref a_p0_need, .ref a_p0_kind, .ref a_p0_first, .ref a_p0_second, .ref a_p0_after])), (a_p0_need, .inl (G 1, 7, .inl (zA v_p0_need)))] sz) := by
  refine Met.ofW (cc := cX6_reset) (maxL := 1) (ret := none) (by decide) rfl ?_
  intro p e s m args below meth c s₁ B hml hv
  obtain ⟨rfl, hsz, hP, hK, hD0⟩ := hv
  have hx := B.exec
  have hb := B.bytes
  have hr := B.returns
  have hts := atoms_spec (ws := wsX6_reset) B.pre
  have hown : s.vm.findClass RX6 = some m.cls := findClass_of_methodNamed B.named
  have hlocks := B.notSynchronized
  subst hsz
  have hD := hD0.self (sz := s.heap.size)
  generalize hAe : va_A [(a_p0, .inr (6, [.int (Int32.ofInt i_p0_seats), .int (Int32.ofInt i_p0_stirs), .ref a_p0_need, .ref a_p0_kind, .ref a_p0_first, .ref a_p0_second, .ref a_p0_after])), (a_p0_need, .inl (G 1, 7, .inl (zA v_p0_need)))] s.heap.size = A at hD ⊢
  have hA : ∀ q : Nat, s.heap.size ≤ q → A q := fun q h => by rw [← hAe]; exact Or.inr h
  clear hAe hD0
  have hS : va_S A s.heap s.heap [] := va_S.rf
  have hl := lv_entry ([.ref a_p0]) (n := 1) (Nat.le_of_ble_eq_true rfl)
  rw [lg_entry_eq]
  generalize (lg_sl ([.ref a_p0]) ++ List.replicate (1 - (lg_sl ([.ref a_p0])).length) Slot.unset).toArray = ls at hl ⊢
  have hl : lv_has ls 1 [(0, .ref a_p0)] := hl
  refine W_nameQ (fun Q hQ => ?_)
  obtain ⟨H, hH⟩ : ∃ H, H = s.heap := ⟨_, rfl⟩
  replace hS : va_S A s.heap H [] := by rw [hH]; exact hS
  replace hP : va_P D vwCl [(a_p0, .inr (6, [.int (Int32.ofInt i_p0_seats), .int (Int32.ofInt i_p0_stirs), .ref a_p0_need, .ref a_p0_kind, .ref a_p0_first, .ref a_p0_second, .ref a_p0_after])), (a_p0_need, .inl (G 1, 7, .inl (zA v_p0_need)))] H := by rw [hH]; exact hP
  rw [← hH]
  clear hH
  unfold f_X6_reset at hf
  refine lv_aload_n hx hb dX6_reset_0 rfl (lv_at hl 0 rfl) ?_
  refine lv_iconst (v := Int32.ofInt (4 : Int)) hx hb dX6_reset_1 (by decide) ?_
  refine z_topi (fun z1 ez => ?_)
  replace hf := bnd_s hf ez
  clear ez
  refine va_put (D := D) (ci := 6) (v := .int (Int32.ofInt z1)) (ty := .int) (C := RX6) (T := TX6) (N := 7) hx hb hts inX6_reset_X6 tyX6 tyX6_ok nmX6 hown hK hP hD hS 0 rfl rfl 0 (by decide) (hts _ mwX6_reset_1) (fun _ h9 => h9) rfl (by decide +kernel) rfl rfl (Nat.le_of_ble_eq_true rfl) dX6_reset_2 (fun H locs hP hD hS => ?_)
  have hP : va_P D vwCl [(a_p0, .inr (6, [.int (Int32.ofInt z1), .int (Int32.ofInt i_p0_stirs), .ref a_p0_need, .ref a_p0_kind, .ref a_p0_first, .ref a_p0_second, .ref a_p0_after])), (a_p0_need, .inl (G 1, 7, .inl (zA v_p0_need)))] H := hP
  have hD : va_D A [(a_p0, .inr (6, [.int (Int32.ofInt z1), .int (Int32.ofInt i_p0_stirs), .ref a_p0_need, .ref a_p0_kind, .ref a_p0_first, .ref a_p0_second, .ref a_p0_after])), (a_p0_need, .inl (G 1, 7, .inl (zA v_p0_need)))] := hD
  refine lv_aload_n hx hb dX6_reset_5 rfl (lv_at hl 0 rfl) ?_
  refine lv_iconst (v := Int32.ofInt (0 : Int)) hx hb dX6_reset_6 (by decide) ?_
  refine z_topi (fun z2 ez => ?_)
  replace hf := bnd_s hf ez
  clear ez
  refine va_put (D := D) (ci := 6) (v := .int (Int32.ofInt z2)) (ty := .int) (C := RX6) (T := TX6) (N := 7) hx hb hts inX6_reset_X6 tyX6 tyX6_ok nmX6 hown hK hP hD hS 0 rfl rfl 1 (by decide) (hts _ mwX6_reset_2) (fun _ h9 => h9) rfl (by decide +kernel) rfl rfl (Nat.le_of_ble_eq_true rfl) dX6_reset_7 (fun H locs hP hD hS => ?_)
  have hP : va_P D vwCl [(a_p0, .inr (6, [.int (Int32.ofInt z1), .int (Int32.ofInt z2), .ref a_p0_need, .ref a_p0_kind, .ref a_p0_first, .ref a_p0_second, .ref a_p0_after])), (a_p0_need, .inl (G 1, 7, .inl (zA v_p0_need)))] H := hP
  have hD : va_D A [(a_p0, .inr (6, [.int (Int32.ofInt z1), .int (Int32.ofInt z2), .ref a_p0_need, .ref a_p0_kind, .ref a_p0_first, .ref a_p0_second, .ref a_p0_after])), (a_p0_need, .inl (G 1, 7, .inl (zA v_p0_need)))] := hD
  refine lv_aload_n hx hb dX6_reset_10 rfl (lv_at hl 0 rfl) ?_
  refine va_get (D := D) (ci := 6) (v := .ref a_p0_need) (C := RX6) (T := TX6) (N := 7) hx hb hts inX6_reset_X6 hown hK hP 0 rfl rfl 2 (by decide) (hts _ mwX6_reset_3) (fun _ h9 => h9) rfl dX6_reset_11 ?_
  refine lv_iconst (v := Int32.ofInt (0 : Int)) hx hb dX6_reset_14 (by decide) ?_
  have hq := bd1_s hf
  clear hf
  obtain ⟨w3, hcall, hf⟩ := hq
  refine gsV (ws' := [(a_p0, .inr (6, [.int (Int32.ofInt z1), .int (Int32.ofInt z2), .ref a_p0_need, .ref a_p0_kind, .ref a_p0_first, .ref a_p0_second, .ref a_p0_after])), (a_p0_need, .inl (G 1, 7, .inl (zA w3)))]) (va_runS (As := [.ref a_p0_need, .int (Int32.ofInt (0 : Int))]) (rest := []) ⟨hx, hb, hml, hown, hts⟩ (c_J7_fill_53178 (l := l) (D := D) (G := G) (sz := H.size) (a_p0 := a_p0_need) (n_p0 := 7) (v_p0 := v_p0_need) (x1 := (0 : Int)) (o_v_p0 := w3) (hf := hcall)) (va_cwS 2 hts gX6_reset_J7_fill_53178 rfl rfl rfl (by decide +kernel) ⟨Nat.le_of_ble_eq_true rfl, Nat.le_of_ble_eq_true rfl⟩) (preG_S (hP.sub [1] rfl) (hD.sub [1] rfl rfl) hK) rfl rfl hl.1 rfl (lv_room (Nat.le_of_ble_eq_true rfl)) dX6_reset_15 ⟨Nat.le_of_ble_eq_true rfl, Nat.le_of_ble_eq_true rfl⟩) hP hD hS hA [1] rfl rfl rfl (fun H locs hP hD hS => ?_)
  clear hcall
  obtain ⟨rfl, rfl, rfl⟩ := ou3 hf
  rw [hQ]
  exact W.vret hx hb hr (fun t ht hW => ⟨⟨(), rfl, trivial, by rw [ht]; exact hP, va_K.moved hW.alike hK, hD⟩, hS.F ht⟩) hS.2.2 dX6_reset_18

noncomputable def f_X6_copy (v_p0_need : (Int → Int)) (v_p0_after : (Int → Int)) (i_p1_seats : Int) (i_p1_stirs : Int) (v_p1_need : (Int → Int)) (v_p1_after : (Int → Int)) : Option (Int × Int × (Int → Int) × (Int → Int)) := (bnd i_p1_seats (fun (z1 : Int) => (bnd i_p1_stirs (fun (z2 : Int) => (ck (z_cp (0 : Int) (7 : Int) 7) (ck (z_cp (0 : Int) (7 : Int) 7) (bnd (z_cpy v_p1_need v_p0_need (0 : Int) (0 : Int) (7 : Int)) (fun (w3 : (Int → Int)) => (ck (z_cp (0 : Int) (35 : Int) 35) (ck (z_cp (0 : Int) (35 : Int) 35) (bnd (z_cpy v_p1_after v_p0_after (0 : Int) (0 : Int) (35 : Int)) (fun (w4 : (Int → Int)) => (some (z1, z2, w3, w4))))))))))))))
abbrev rm_X6_copy : Room := { frames := 1, cells := 0, slots := 0, locals := 60 }
theorem inX6_copy_X6 : ∀ w ∈ wsX60, w ∈ wsX6_copy := by first | exact fun w h => List.mem_cons_of_mem _ (List.mem_append_right _ h) | decide +kernel
theorem mwX6_copy_1 : Cond.fieldLink RX6 9 "LadleKings$Rules" "seats" "I" ∈ wsX6_copy := by first | exact List.mem_of_getElem? (i := 1) rfl | decide +kernel
theorem mwX6_copy_2 : Cond.fieldLink RX6 15 "LadleKings$Rules" "stirs" "I" ∈ wsX6_copy := by first | exact List.mem_of_getElem? (i := 2) rfl | decide +kernel
theorem mwX6_copy_3 : Cond.fieldLink RX6 18 "LadleKings$Rules" "need" "[I" ∈ wsX6_copy := by first | exact List.mem_of_getElem? (i := 3) rfl | decide +kernel
theorem mwX6_copy_4 : Cond.methodLink RX6 40 arraycopyName ∈ wsX6_copy := by first | exact List.mem_of_getElem? (i := 4) rfl | decide +kernel
theorem mwX6_copy_5 : Cond.native arraycopyName ∈ wsX6_copy := by first | exact List.mem_of_getElem? (i := 5) rfl | decide +kernel
theorem mwX6_copy_6 : Cond.static arraycopyName ∈ wsX6_copy := by first | exact List.mem_of_getElem? (i := 6) rfl | decide +kernel
theorem mwX6_copy_7 : Cond.initialized "java/lang/System" ∈ wsX6_copy := by first | exact List.mem_of_getElem? (i := 7) rfl | decide +kernel
theorem mwX6_copy_8 : Cond.fieldLink RX6 31 "LadleKings$Rules" "after" "[I" ∈ wsX6_copy := by first | exact List.mem_of_getElem? (i := 8) rfl | decide +kernel
set_option maxHeartbeats 8000000 in
set_option maxRecDepth 100000 in
theorem c_X6_copy (l : Launch) (D : va_G) (G : Nat → ClassId) (sz : Nat) (a_p0 : Nat) (a_p0_need : Nat) (a_p0_kind : Nat) (a_p0_first : Nat) (a_p0_second : Nat) (a_p0_after : Nat) (a_p1 : Nat) (a_p1_need : Nat) (a_p1_kind : Nat) (a_p1_first : Nat) (a_p1_second : Nat) (a_p1_after : Nat) (i_p0_seats : Int) (i_p0_stirs : Int) (v_p0_need : (Int → Int)) (v_p0_after : (Int → Int)) (i_p1_seats : Int) (i_p1_stirs : Int) (v_p1_need : (Int → Int)) (v_p1_after : (Int → Int)) (o_i_p0_seats : Int) (o_i_p0_stirs : Int) (o_v_p0_need : (Int → Int)) (o_v_p0_after : (Int → Int)) (hf : f_X6_copy v_p0_need v_p0_after i_p1_seats i_p1_stirs v_p1_need v_p1_after = some (o_i_p0_seats, o_i_p0_stirs, o_v_p0_need, o_v_p0_after)) : Met l yX6_copy wsX6_copy rm_X6_copy (pcG D G [.ref a_p0, .ref a_p1] sz [(a_p0, .inr (6, [.int (Int32.ofInt i_p0_seats), .int (Int32.ofInt i_p0_stirs), .ref a_p0_need, .ref a_p0_kind, .ref a_p0_first, .ref a_p0_second, .ref a_p0_after])), (a_p0_need, .inl (G 1, 7, .inl (zA v_p0_need))), (a_p0_after, .inl (G 1, 35, .inl (zA v_p0_after))), (a_p1, .inr (6, [.int (Int32.ofInt i_p1_seats), .int (Int32.ofInt i_p1_stirs), .ref a_p1_need, .ref a_p1_kind, .ref a_p1_first, .ref a_p1_second, .ref a_p1_after])), (a_p1_need, .inl (G 1, 7, .inl (zA v_p1_need))), (a_p1_after, .inl (G 1, 35, .inl (zA v_p1_after)))]) (qcV D G [(a_p0, .inr (6, [.int (Int32.ofInt o_i_p0_seats), .int (Int32.ofInt o_i_p0_stirs), .ref a_p0_need, .ref a_p0_kind, .ref a_p0_first, .ref a_p0_second, .ref a_p0_after])), (a_p0_need, .inl (G 1, 7, .inl (zA o_v_p0_need))), (a_p0_after, .inl (G 1, 35, .inl (zA o_v_p0_after))), (a_p1, .inr (6, [.int (Int32.ofInt i_p1_seats), .int (Int32.ofInt i_p1_stirs), .ref a_p1_need, .ref a_p1_kind, .ref a_p1_first, .ref a_p1_second, .ref a_p1_after])), (a_p1_need, .inl (G 1, 7, .inl (zA v_p1_need))), (a_p1_after, .inl (G 1, 35, .inl (zA v_p1_after)))] (va_A [(a_p0, .inr (6, [.int (Int32.ofInt i_p0_seats), .int (Int32.ofInt i_p0_stirs), .ref a_p0_need, .ref a_p0_kind, .ref a_p0_first, .ref a_p0_second, .ref a_p0_after])), (a_p0_need, .inl (G 1, 7, .inl (zA v_p0_need))), (a_p0_after, .inl (G 1, 35, .inl (zA v_p0_after))), (a_p1, .inr (6, [.int (Int32.ofInt i_p1_seats), .int (Int32.ofInt i_p1_stirs), .ref a_p1_need, .ref a_p1_kind, .ref a_p1_first, .ref a_p1_second, .ref a_p1_after])), (a_p1_need, .inl (G 1, 7, .inl (zA v_p1_need))), (a_p1_after, .inl (G 1, 35, .inl (zA v_p1_after)))] sz)) 0 0 (va_A [(a_p0, .inr (6, [.int (Int32.ofInt i_p0_seats), .int (Int32.ofInt i_p0_stirs), .ref a_p0_need, .ref a_p0_kind, .ref a_p0_first, .ref a_p0_second, .ref a_p0_after])), (a_p0_need, .inl (G 1, 7, .inl (zA v_p0_need))), (a_p0_after, .inl (G 1, 35, .inl (zA v_p0_after))), (a_p1, .inr (6, [.int (Int32.ofInt i_p1_seats), .int (Int32.ofInt i_p1_stirs), .ref a_p1_need, .ref a_p1_kind, .ref a_p1_first, .ref a_p1_second, .ref a_p1_after])), (a_p1_need, .inl (G 1, 7, .inl (zA v_p1_need))), (a_p1_after, .inl (G 1, 35, .inl (zA v_p1_after)))] sz) := by
  refine Met.ofW (cc := cX6_copy) (maxL := 2) (ret := none) (by decide) rfl ?_
  intro p e s m args below meth c s₁ B hml hv
  obtain ⟨rfl, hsz, hP, hK, hD0⟩ := hv
  have hx := B.exec
  have hb := B.bytes
  have hr := B.returns
  have hts := atoms_spec (ws := wsX6_copy) B.pre
  have hown : s.vm.findClass RX6 = some m.cls := findClass_of_methodNamed B.named
  have hlocks := B.notSynchronized
  subst hsz
  have hD := hD0.self (sz := s.heap.size)
  generalize hAe : va_A [(a_p0, .inr (6, [.int (Int32.ofInt i_p0_seats), .int (Int32.ofInt i_p0_stirs), .ref a_p0_need, .ref a_p0_kind, .ref a_p0_first, .ref a_p0_second, .ref a_p0_after])), (a_p0_need, .inl (G 1, 7, .inl (zA v_p0_need))), (a_p0_after, .inl (G 1, 35, .inl (zA v_p0_after))), (a_p1, .inr (6, [.int (Int32.ofInt i_p1_seats), .int (Int32.ofInt i_p1_stirs), .ref a_p1_need, .ref a_p1_kind, .ref a_p1_first, .ref a_p1_second, .ref a_p1_after])), (a_p1_need, .inl (G 1, 7, .inl (zA v_p1_need))), (a_p1_after, .inl (G 1, 35, .inl (zA v_p1_after)))] s.heap.size = A at hD ⊢
  have hA : ∀ q : Nat, s.heap.size ≤ q → A q := fun q h => by rw [← hAe]; exact Or.inr h
  clear hAe hD0
  have hS : va_S A s.heap s.heap [] := va_S.rf
  have hl := lv_entry ([.ref a_p0, .ref a_p1]) (n := 2) (Nat.le_of_ble_eq_true rfl)
  rw [lg_entry_eq]
  generalize (lg_sl ([.ref a_p0, .ref a_p1]) ++ List.replicate (2 - (lg_sl ([.ref a_p0, .ref a_p1])).length) Slot.unset).toArray = ls at hl ⊢
  have hl : lv_has ls 2 [(0, .ref a_p0), (1, .ref a_p1)] := hl
  refine W_nameQ (fun Q hQ => ?_)
  obtain ⟨H, hH⟩ : ∃ H, H = s.heap := ⟨_, rfl⟩
  replace hS : va_S A s.heap H [] := by rw [hH]; exact hS
  replace hP : va_P D vwCl [(a_p0, .inr (6, [.int (Int32.ofInt i_p0_seats), .int (Int32.ofInt i_p0_stirs), .ref a_p0_need, .ref a_p0_kind, .ref a_p0_first, .ref a_p0_second, .ref a_p0_after])), (a_p0_need, .inl (G 1, 7, .inl (zA v_p0_need))), (a_p0_after, .inl (G 1, 35, .inl (zA v_p0_after))), (a_p1, .inr (6, [.int (Int32.ofInt i_p1_seats), .int (Int32.ofInt i_p1_stirs), .ref a_p1_need, .ref a_p1_kind, .ref a_p1_first, .ref a_p1_second, .ref a_p1_after])), (a_p1_need, .inl (G 1, 7, .inl (zA v_p1_need))), (a_p1_after, .inl (G 1, 35, .inl (zA v_p1_after)))] H := by rw [hH]; exact hP
  rw [← hH]
  clear hH
  unfold f_X6_copy at hf
  refine lv_aload_n hx hb dX6_copy_0 rfl (lv_at hl 0 rfl) ?_
  refine lv_aload_n hx hb dX6_copy_1 rfl (lv_at hl 1 rfl) ?_
  refine va_get (D := D) (ci := 6) (v := .int (Int32.ofInt i_p1_seats)) (C := RX6) (T := TX6) (N := 7) hx hb hts inX6_copy_X6 hown hK hP 3 rfl rfl 0 (by decide) (hts _ mwX6_copy_1) (fun _ h9 => h9) rfl dX6_copy_2 ?_
  refine z_topi (fun z1 ez => ?_)
  replace hf := bnd_s hf ez
  clear ez
  refine va_put (D := D) (ci := 6) (v := .int (Int32.ofInt z1)) (ty := .int) (C := RX6) (T := TX6) (N := 7) hx hb hts inX6_copy_X6 tyX6 tyX6_ok nmX6 hown hK hP hD hS 0 rfl rfl 0 (by decide) (hts _ mwX6_copy_1) (fun _ h9 => h9) rfl (by decide +kernel) rfl rfl (Nat.le_of_ble_eq_true rfl) dX6_copy_5 (fun H locs hP hD hS => ?_)
  have hP : va_P D vwCl [(a_p0, .inr (6, [.int (Int32.ofInt z1), .int (Int32.ofInt i_p0_stirs), .ref a_p0_need, .ref a_p0_kind, .ref a_p0_first, .ref a_p0_second, .ref a_p0_after])), (a_p0_need, .inl (G 1, 7, .inl (zA v_p0_need))), (a_p0_after, .inl (G 1, 35, .inl (zA v_p0_after))), (a_p1, .inr (6, [.int (Int32.ofInt i_p1_seats), .int (Int32.ofInt i_p1_stirs), .ref a_p1_need, .ref a_p1_kind, .ref a_p1_first, .ref a_p1_second, .ref a_p1_after])), (a_p1_need, .inl (G 1, 7, .inl (zA v_p1_need))), (a_p1_after, .inl (G 1, 35, .inl (zA v_p1_after)))] H := hP
  have hD : va_D A [(a_p0, .inr (6, [.int (Int32.ofInt z1), .int (Int32.ofInt i_p0_stirs), .ref a_p0_need, .ref a_p0_kind, .ref a_p0_first, .ref a_p0_second, .ref a_p0_after])), (a_p0_need, .inl (G 1, 7, .inl (zA v_p0_need))), (a_p0_after, .inl (G 1, 35, .inl (zA v_p0_after))), (a_p1, .inr (6, [.int (Int32.ofInt i_p1_seats), .int (Int32.ofInt i_p1_stirs), .ref a_p1_need, .ref a_p1_kind, .ref a_p1_first, .ref a_p1_second, .ref a_p1_after])), (a_p1_need, .inl (G 1, 7, .inl (zA v_p1_need))), (a_p1_after, .inl (G 1, 35, .inl (zA v_p1_after)))] := hD
  refine lv_aload_n hx hb dX6_copy_8 rfl (lv_at hl 0 rfl) ?_
  refine lv_aload_n hx hb dX6_copy_9 rfl (lv_at hl 1 rfl) ?_
  refine va_get (D := D) (ci := 6) (v := .int (Int32.ofInt i_p1_stirs)) (C := RX6) (T := TX6) (N := 7) hx hb hts inX6_copy_X6 hown hK hP 3 rfl rfl 1 (by decide) (hts _ mwX6_copy_2) (fun _ h9 => h9) rfl dX6_copy_10 ?_
  refine z_topi (fun z2 ez => ?_)
  replace hf := bnd_s hf ez
  clear ez
  refine va_put (D := D) (ci := 6) (v := .int (Int32.ofInt z2)) (ty := .int) (C := RX6) (T := TX6) (N := 7) hx hb hts inX6_copy_X6 tyX6 tyX6_ok nmX6 hown hK hP hD hS 0 rfl rfl 1 (by decide) (hts _ mwX6_copy_2) (fun _ h9 => h9) rfl (by decide +kernel) rfl rfl (Nat.le_of_ble_eq_true rfl) dX6_copy_13 (fun H locs hP hD hS => ?_)
  have hP : va_P D vwCl [(a_p0, .inr (6, [.int (Int32.ofInt z1), .int (Int32.ofInt z2), .ref a_p0_need, .ref a_p0_kind, .ref a_p0_first, .ref a_p0_second, .ref a_p0_after])), (a_p0_need, .inl (G 1, 7, .inl (zA v_p0_need))), (a_p0_after, .inl (G 1, 35, .inl (zA v_p0_after))), (a_p1, .inr (6, [.int (Int32.ofInt i_p1_seats), .int (Int32.ofInt i_p1_stirs), .ref a_p1_need, .ref a_p1_kind, .ref a_p1_first, .ref a_p1_second, .ref a_p1_after])), (a_p1_need, .inl (G 1, 7, .inl (zA v_p1_need))), (a_p1_after, .inl (G 1, 35, .inl (zA v_p1_after)))] H := hP
  have hD : va_D A [(a_p0, .inr (6, [.int (Int32.ofInt z1), .int (Int32.ofInt z2), .ref a_p0_need, .ref a_p0_kind, .ref a_p0_first, .ref a_p0_second, .ref a_p0_after])), (a_p0_need, .inl (G 1, 7, .inl (zA v_p0_need))), (a_p0_after, .inl (G 1, 35, .inl (zA v_p0_after))), (a_p1, .inr (6, [.int (Int32.ofInt i_p1_seats), .int (Int32.ofInt i_p1_stirs), .ref a_p1_need, .ref a_p1_kind, .ref a_p1_first, .ref a_p1_second, .ref a_p1_after])), (a_p1_need, .inl (G 1, 7, .inl (zA v_p1_need))), (a_p1_after, .inl (G 1, 35, .inl (zA v_p1_after)))] := hD
  refine lv_aload_n hx hb dX6_copy_16 rfl (lv_at hl 1 rfl) ?_
  refine va_get (D := D) (ci := 6) (v := .ref a_p1_need) (C := RX6) (T := TX6) (N := 7) hx hb hts inX6_copy_X6 hown hK hP 3 rfl rfl 2 (by decide) (hts _ mwX6_copy_3) (fun _ h9 => h9) rfl dX6_copy_17 ?_
  refine lv_iconst (v := Int32.ofInt (0 : Int)) hx hb dX6_copy_20 (by decide) ?_
  refine lv_aload_n hx hb dX6_copy_21 rfl (lv_at hl 0 rfl) ?_
  refine va_get (D := D) (ci := 6) (v := .ref a_p0_need) (C := RX6) (T := TX6) (N := 7) hx hb hts inX6_copy_X6 hown hK hP 0 rfl rfl 2 (by decide) (hts _ mwX6_copy_3) (fun _ h9 => h9) rfl dX6_copy_22 ?_
  refine lv_iconst (v := Int32.ofInt (0 : Int)) hx hb dX6_copy_25 (by decide) ?_
  refine lv_bipush (v := Int32.ofInt (7 : Int)) hx hb dX6_copy_26 (by decide) ?_
  have hc0 := ck_c hf
  have hc := z_cp_s hc0
  replace hf := ck_r hf
  have hc02 := ck_c hf
  have hc2 := z_cp_s hc02
  replace hf := ck_r hf
  refine va_copyi hx hb (by rw [hml]; exact hl.1.symm) hown (hts _ mwX6_copy_4) (hts _ mwX6_copy_5) (hts _ mwX6_copy_6) (hts _ mwX6_copy_7) hK hP hD hS 4 1 1 1 rfl rfl rfl rfl rfl hc.1 hc2.1 hc.2.1 hc.2.2 hc2.2.2 (fun _ _ => rfl) (Nat.le_of_ble_eq_true rfl) (Nat.le_of_ble_eq_true rfl) dX6_copy_28 (fun H locs hP hD hS => ?_)
  obtain ⟨w3, ez⟩ : ∃ y : (Int → Int), y = (z_cpy v_p1_need v_p0_need (0 : Int) (0 : Int) (7 : Int)) := ⟨_, rfl⟩
  have hP : va_P D vwCl [(a_p0, .inr (6, [.int (Int32.ofInt z1), .int (Int32.ofInt z2), .ref a_p0_need, .ref a_p0_kind, .ref a_p0_first, .ref a_p0_second, .ref a_p0_after])), (a_p0_need, .inl (G 1, 7, .inl (zA w3))), (a_p0_after, .inl (G 1, 35, .inl (zA v_p0_after))), (a_p1, .inr (6, [.int (Int32.ofInt i_p1_seats), .int (Int32.ofInt i_p1_stirs), .ref a_p1_need, .ref a_p1_kind, .ref a_p1_first, .ref a_p1_second, .ref a_p1_after])), (a_p1_need, .inl (G 1, 7, .inl (zA v_p1_need))), (a_p1_after, .inl (G 1, 35, .inl (zA v_p1_after)))] H := by rw [ez, ← z_cpy_e hc0 hc02]; exact hP
  have hD : va_D A [(a_p0, .inr (6, [.int (Int32.ofInt z1), .int (Int32.ofInt z2), .ref a_p0_need, .ref a_p0_kind, .ref a_p0_first, .ref a_p0_second, .ref a_p0_after])), (a_p0_need, .inl (G 1, 7, .inl (zA w3))), (a_p0_after, .inl (G 1, 35, .inl (zA v_p0_after))), (a_p1, .inr (6, [.int (Int32.ofInt i_p1_seats), .int (Int32.ofInt i_p1_stirs), .ref a_p1_need, .ref a_p1_kind, .ref a_p1_first, .ref a_p1_second, .ref a_p1_after])), (a_p1_need, .inl (G 1, 7, .inl (zA v_p1_need))), (a_p1_after, .inl (G 1, 35, .inl (zA v_p1_after)))] := by rw [ez, ← z_cpy_e hc0 hc02]; exact hD
  replace hf := bnd_s hf ez
  clear ez hc hc2 hc0 hc02
  refine lv_aload_n hx hb dX6_copy_31 rfl (lv_at hl 1 rfl) ?_
  refine va_get (D := D) (ci := 6) (v := .ref a_p1_after) (C := RX6) (T := TX6) (N := 7) hx hb hts inX6_copy_X6 hown hK hP 3 rfl rfl 6 (by decide) (hts _ mwX6_copy_8) (fun _ h9 => h9) rfl dX6_copy_32 ?_
  refine lv_iconst (v := Int32.ofInt (0 : Int)) hx hb dX6_copy_35 (by decide) ?_
  refine lv_aload_n hx hb dX6_copy_36 rfl (lv_at hl 0 rfl) ?_
  refine va_get (D := D) (ci := 6) (v := .ref a_p0_after) (C := RX6) (T := TX6) (N := 7) hx hb hts inX6_copy_X6 hown hK hP 0 rfl rfl 6 (by decide) (hts _ mwX6_copy_8) (fun _ h9 => h9) rfl dX6_copy_37 ?_
  refine lv_iconst (v := Int32.ofInt (0 : Int)) hx hb dX6_copy_40 (by decide) ?_
  refine lv_bipush (v := Int32.ofInt (35 : Int)) hx hb dX6_copy_41 (by decide) ?_
  have hc0 := ck_c hf
  have hc := z_cp_s hc0
  replace hf := ck_r hf
  have hc02 := ck_c hf
  have hc2 := z_cp_s hc02
  replace hf := ck_r hf
  refine va_copyi hx hb (by rw [hml]; exact hl.1.symm) hown (hts _ mwX6_copy_4) (hts _ mwX6_copy_5) (hts _ mwX6_copy_6) (hts _ mwX6_copy_7) hK hP hD hS 5 2 1 1 rfl rfl rfl rfl rfl hc.1 hc2.1 hc.2.1 hc.2.2 hc2.2.2 (fun _ _ => rfl) (Nat.le_of_ble_eq_true rfl) (Nat.le_of_ble_eq_true rfl) dX6_copy_43 (fun H locs hP hD hS => ?_)
  obtain ⟨w4, ez⟩ : ∃ y : (Int → Int), y = (z_cpy v_p1_after v_p0_after (0 : Int) (0 : Int) (35 : Int)) := ⟨_, rfl⟩
  have hP : va_P D vwCl [(a_p0, .inr (6, [.int (Int32.ofInt z1), .int (Int32.ofInt z2), .ref a_p0_need, .ref a_p0_kind, .ref a_p0_first, .ref a_p0_second, .ref a_p0_after])), (a_p0_need, .inl (G 1, 7, .inl (zA w3))), (a_p0_after, .inl (G 1, 35, .inl (zA w4))), (a_p1, .inr (6, [.int (Int32.ofInt i_p1_seats), .int (Int32.ofInt i_p1_stirs), .ref a_p1_need, .ref a_p1_kind, .ref a_p1_first, .ref a_p1_second, .ref a_p1_after])), (a_p1_need, .inl (G 1, 7, .inl (zA v_p1_need))), (a_p1_after, .inl (G 1, 35, .inl (zA v_p1_after)))] H := by rw [ez, ← z_cpy_e hc0 hc02]; exact hP
  have hD : va_D A [(a_p0, .inr (6, [.int (Int32.ofInt z1), .int (Int32.ofInt z2), .ref a_p0_need, .ref a_p0_kind, .ref a_p0_first, .ref a_p0_second, .ref a_p0_after])), (a_p0_need, .inl (G 1, 7, .inl (zA w3))), (a_p0_after, .inl (G 1, 35, .inl (zA w4))), (a_p1, .inr (6, [.int (Int32.ofInt i_p1_seats), .int (Int32.ofInt i_p1_stirs), .ref a_p1_need, .ref a_p1_kind, .ref a_p1_first, .ref a_p1_second, .ref a_p1_after])), (a_p1_need, .inl (G 1, 7, .inl (zA v_p1_need))), (a_p1_after, .inl (G 1, 35, .inl (zA v_p1_after)))] := by rw [ez, ← z_cpy_e hc0 hc02]; exact hD
  replace hf := bnd_s hf ez
  clear ez hc hc2 hc0 hc02
  obtain ⟨rfl, rfl, rfl, rfl⟩ := ou4 hf
  rw [hQ]
  exact W.vret hx hb hr (fun t ht hW => ⟨⟨(), rfl, trivial, by rw [ht]; exact hP, va_K.moved hW.alike hK, hD⟩, hS.F ht⟩) hS.2.2 dX6_copy_46

noncomputable def f_X6_hasSeat (i_p0_seats : Int) (x1 : Int) : Option (Int) := (ck (z_r32 x1) (if x1 < (0 : Int) then (some (0 : Int)) else (ck (z_r32 i_p0_seats) (if i_p0_seats ≤ x1 then (some (0 : Int)) else (some (1 : Int))))))
abbrev rm_X6_hasSeat : Room := { frames := 0, cells := 0, slots := 0, locals := 0 }
theorem inX6_hasSeat_X6 : ∀ w ∈ wsX60, w ∈ wsX6_hasSeat := by first | exact fun w h => List.mem_cons_of_mem _ (List.mem_append_right _ h) | decide +kernel
theorem mwX6_hasSeat_1 : Cond.fieldLink RX6 9 "LadleKings$Rules" "seats" "I" ∈ wsX6_hasSeat := by first | exact List.mem_of_getElem? (i := 1) rfl | decide +kernel
set_option maxHeartbeats 8000000 in
set_option maxRecDepth 100000 in
theorem c_X6_hasSeat (l : Launch) (D : va_G) (G : Nat → ClassId) (sz : Nat) (a_p0 : Nat) (a_p0_need : Nat) (a_p0_kind : Nat) (a_p0_first : Nat) (a_p0_second : Nat) (a_p0_after : Nat) (i_p0_seats : Int) (i_p0_stirs : Int) (x1 : Int) (r : Int) (hf : f_X6_hasSeat i_p0_seats x1 = some r) : Met l yX6_hasSeat wsX6_hasSeat rm_X6_hasSeat (pcG D G [.ref a_p0, .int (Int32.ofInt x1)] sz [(a_p0, .inr (6, [.int (Int32.ofInt i_p0_seats), .int (Int32.ofInt i_p0_stirs), .ref a_p0_need, .ref a_p0_kind, .ref a_p0_first, .ref a_p0_second, .ref a_p0_after]))]) (qcI D G (Int32.ofInt r) [(a_p0, .inr (6, [.int (Int32.ofInt i_p0_seats), .int (Int32.ofInt i_p0_stirs), .ref a_p0_need, .ref a_p0_kind, .ref a_p0_first, .ref a_p0_second, .ref a_p0_after]))] (va_A [(a_p0, .inr (6, [.int (Int32.ofInt i_p0_seats), .int (Int32.ofInt i_p0_stirs), .ref a_p0_need, .ref a_p0_kind, .ref a_p0_first, .ref a_p0_second, .ref a_p0_after]))] sz)) 0 0 (va_A [(a_p0, .inr (6, [.int (Int32.ofInt i_p0_seats), .int (Int32.ofInt i_p0_stirs), .ref a_p0_need, .ref a_p0_kind, .ref a_p0_first, .ref a_p0_second, .ref a_p0_after]))] sz) := by
  refine Met.ofW (cc := cX6_hasSeat) (maxL := 2) (ret := (some .boolean)) (by decide) rfl ?_
  intro p e s m args below meth c s₁ B hml hv
  obtain ⟨rfl, hsz, hP, hK, hD0⟩ := hv
  have hx := B.exec
  have hb := B.bytes
  have hr := B.returns
  have hts := atoms_spec (ws := wsX6_hasSeat) B.pre
  have hown : s.vm.findClass RX6 = some m.cls := findClass_of_methodNamed B.named
  have hlocks := B.notSynchronized
  subst hsz
  have hD := hD0.self (sz := s.heap.size)
  generalize hAe : va_A [(a_p0, .inr (6, [.int (Int32.ofInt i_p0_seats), .int (Int32.ofInt i_p0_stirs), .ref a_p0_need, .ref a_p0_kind, .ref a_p0_first, .ref a_p0_second, .ref a_p0_after]))] s.heap.size = A at hD ⊢
  have hA : ∀ q : Nat, s.heap.size ≤ q → A q := fun q h => by rw [← hAe]; exact Or.inr h
  clear hAe hD0
  have hS : va_S A s.heap s.heap [] := va_S.rf
  have hl := lv_entry ([.ref a_p0, .int (Int32.ofInt x1)]) (n := 2) (Nat.le_of_ble_eq_true rfl)
  rw [lg_entry_eq]
  generalize (lg_sl ([.ref a_p0, .int (Int32.ofInt x1)]) ++ List.replicate (2 - (lg_sl ([.ref a_p0, .int (Int32.ofInt x1)])).length) Slot.unset).toArray = ls at hl ⊢
  have hl : lv_has ls 2 [(0, .ref a_p0), (1, .int (Int32.ofInt x1))] := hl
  refine W_nameQ (fun Q hQ => ?_)
  obtain ⟨H, hH⟩ : ∃ H, H = s.heap := ⟨_, rfl⟩
  replace hS : va_S A s.heap H [] := by rw [hH]; exact hS
  replace hP : va_P D vwCl [(a_p0, .inr (6, [.int (Int32.ofInt i_p0_seats), .int (Int32.ofInt i_p0_stirs), .ref a_p0_need, .ref a_p0_kind, .ref a_p0_first, .ref a_p0_second, .ref a_p0_after]))] H := by rw [hH]; exact hP
  rw [← hH]
  clear hH
  unfold f_X6_hasSeat at hf
  refine lv_iload_n hx hb dX6_hasSeat_0 rfl (lv_at hl 1 rfl) ?_
  have hr0 := ck_c hf
  replace hf := ck_r hf
  refine lv_if_lt (tgt := 16) hx hb dX6_hasSeat_1 (by decide) (fun cc => ?_) (fun cc => ?_)
  ·
    replace hf := ite_t ((z_lt0 hr0).mp cc) hf
    clear cc
    refine lv_iconst (v := Int32.ofInt (0 : Int)) hx hb dX6_hasSeat_16 (by decide) ?_
    obtain rfl := ou1 hf
    rw [hQ]
    exact W.zret hx hb hr rfl (fun t ht hW => ⟨⟨_, (), rfl, rfl, by rw [ht]; exact hP, va_K.moved hW.alike hK, hD⟩, hS.F ht⟩) hS.2.2 dX6_hasSeat_17
  ·
    replace hf := ite_f (fun h9 => cc ((z_lt0 hr0).mpr h9)) hf
    clear cc
    refine lv_iload_n hx hb dX6_hasSeat_4 rfl (lv_at hl 1 rfl) ?_
    refine lv_aload_n hx hb dX6_hasSeat_5 rfl (lv_at hl 0 rfl) ?_
    refine va_get (D := D) (ci := 6) (v := .int (Int32.ofInt i_p0_seats)) (C := RX6) (T := TX6) (N := 7) hx hb hts inX6_hasSeat_X6 hown hK hP 0 rfl rfl 0 (by decide) (hts _ mwX6_hasSeat_1) (fun _ h9 => h9) rfl dX6_hasSeat_6 ?_
    have hr1 := ck_c hf
    replace hf := ck_r hf
    refine lv_icmp_ge (tgt := 16) hx hb dX6_hasSeat_9 (by decide) (fun cc => ?_) (fun cc => ?_)
    ·
      replace hf := ite_t ((z_le hr1 hr0).mp cc) hf
      clear cc
      refine lv_iconst (v := Int32.ofInt (0 : Int)) hx hb dX6_hasSeat_16 (by decide) ?_
      obtain rfl := ou1 hf
      rw [hQ]
      exact W.zret hx hb hr rfl (fun t ht hW => ⟨⟨_, (), rfl, rfl, by rw [ht]; exact hP, va_K.moved hW.alike hK, hD⟩, hS.F ht⟩) hS.2.2 dX6_hasSeat_17
    ·
      replace hf := ite_f (fun h9 => cc ((z_le hr1 hr0).mpr h9)) hf
      clear cc
      refine lv_iconst (v := Int32.ofInt (1 : Int)) hx hb dX6_hasSeat_12 (by decide) ?_
      refine lv_goto (tgt := 17) hx hb dX6_hasSeat_13 (by decide) ?_
      obtain rfl := ou1 hf
      rw [hQ]
      exact W.zret hx hb hr rfl (fun t ht hW => ⟨⟨_, (), rfl, rfl, by rw [ht]; exact hP, va_K.moved hW.alike hK, hD⟩, hS.F ht⟩) hS.2.2 dX6_hasSeat_17

noncomputable def f_X6_addStir (i_p0_stirs : Int) (v_p0_kind : (Int → Int)) (v_p0_first : (Int → Int)) (v_p0_second : (Int → Int)) (x1 : Int) (x2 : Int) (x3 : Int) : Option (Int × (Int → Int) × (Int → Int) × (Int → Int)) := (ck (z_r32 i_p0_stirs) (if (5 : Int) ≤ i_p0_stirs then (some (i_p0_stirs, v_p0_kind, v_p0_first, v_p0_second)) else (ck (z_ix i_p0_stirs 5) (bnd (z_up v_p0_kind i_p0_stirs x1) (fun (w2 : (Int → Int)) => (ck (z_ix i_p0_stirs 5) (bnd (z_up v_p0_first i_p0_stirs x2) (fun (w3 : (Int → Int)) => (ck (z_ix i_p0_stirs 5) (bnd (z_up v_p0_second i_p0_stirs x3) (fun (w4 : (Int → Int)) => (bnd (i_p0_stirs + (1 : Int)) (fun (z5 : Int) => (some (z5, w2, w3, w4)))))))))))))))
abbrev rm_X6_addStir : Room := { frames := 0, cells := 0, slots := 0, locals := 0 }
theorem inX6_addStir_X6 : ∀ w ∈ wsX60, w ∈ wsX6_addStir := by first | exact fun w h => List.mem_cons_of_mem _ (List.mem_append_right _ h) | decide +kernel
theorem mwX6_addStir_1 : Cond.fieldLink RX6 15 "LadleKings$Rules" "stirs" "I" ∈ wsX6_addStir := by first | exact List.mem_of_getElem? (i := 1) rfl | decide +kernel
theorem mwX6_addStir_2 : Cond.fieldLink RX6 22 "LadleKings$Rules" "kind" "[I" ∈ wsX6_addStir := by first | exact List.mem_of_getElem? (i := 2) rfl | decide +kernel
theorem mwX6_addStir_3 : Cond.fieldLink RX6 25 "LadleKings$Rules" "first" "[I" ∈ wsX6_addStir := by first | exact List.mem_of_getElem? (i := 3) rfl | decide +kernel
theorem mwX6_addStir_4 : Cond.fieldLink RX6 28 "LadleKings$Rules" "second" "[I" ∈ wsX6_addStir := by first | exact List.mem_of_getElem? (i := 4) rfl | decide +kernel
set_option maxHeartbeats 8000000 in
set_option maxRecDepth 100000 in
theorem c_X6_addStir (l : Launch) (D : va_G) (G : Nat → ClassId) (sz : Nat) (a_p0 : Nat) (a_p0_need : Nat) (a_p0_kind : Nat) (a_p0_first : Nat) (a_p0_second : Nat) (a_p0_after : Nat) (i_p0_seats : Int) (i_p0_stirs : Int) (v_p0_kind : (Int → Int)) (v_p0_first : (Int → Int)) (v_p0_second : (Int → Int)) (x1 : Int) (x2 : Int) (x3 : Int) (o_i_p0_stirs : Int) (o_v_p0_kind : (Int → Int)) (o_v_p0_first : (Int → Int)) (o_v_p0_second : (Int → Int)) (hf : f_X6_addStir i_p0_stirs v_p0_kind v_p0_first v_p0_second x1 x2 x3 = some (o_i_p0_stirs, o_v_p0_kind, o_v_p0_first, o_v_p0_second)) : Met l yX6_addStir wsX6_addStir rm_X6_addStir (pcG D G [.ref a_p0, .int (Int32.ofInt x1), .int (Int32.ofInt x2), .int (Int32.ofInt x3)] sz [(a_p0, .inr (6, [.int (Int32.ofInt i_p0_seats), .int (Int32.ofInt i_p0_stirs), .ref a_p0_need, .ref a_p0_kind, .ref a_p0_first, .ref a_p0_second, .ref a_p0_after])), (a_p0_kind, .inl (G 1, 5, .inl (zA v_p0_kind))), (a_p0_first, .inl (G 1, 5, .inl (zA v_p0_first))), (a_p0_second, .inl (G 1, 5, .inl (zA v_p0_second)))]) (qcV D G [(a_p0, .inr (6, [.int (Int32.ofInt i_p0_seats), .int (Int32.ofInt o_i_p0_stirs), .ref a_p0_need, .ref a_p0_kind, .ref a_p0_first, .ref a_p0_second, .ref a_p0_after])), (a_p0_kind, .inl (G 1, 5, .inl (zA o_v_p0_kind))), (a_p0_first, .inl (G 1, 5, .inl (zA o_v_p0_first))), (a_p0_second, .inl (G 1, 5, .inl (zA o_v_p0_second)))] (va_A [(a_p0, .inr (6, [.int (Int32.ofInt i_p0_seats), .int (Int32.ofInt i_p0_stirs), .ref a_p0_need, .ref a_p0_kind, .ref a_p0_first, .ref a_p0_second, .ref a_p0_after])), (a_p0_kind, .inl (G 1, 5, .inl (zA v_p0_kind))), (a_p0_first, .inl (G 1, 5, .inl (zA v_p0_first))), (a_p0_second, .inl (G 1, 5, .inl (zA v_p0_second)))] sz)) 0 0 (va_A [(a_p0, .inr (6, [.int (Int32.ofInt i_p0_seats), .int (Int32.ofInt i_p0_stirs), .ref a_p0_need, .ref a_p0_kind, .ref a_p0_first, .ref a_p0_second, .ref a_p0_after])), (a_p0_kind, .inl (G 1, 5, .inl (zA v_p0_kind))), (a_p0_first, .inl (G 1, 5, .inl (zA v_p0_first))), (a_p0_second, .inl (G 1, 5, .inl (zA v_p0_second)))] sz) := by
  refine Met.ofW (cc := cX6_addStir) (maxL := 4) (ret := none) (by decide) rfl ?_
  intro p e s m args below meth c s₁ B hml hv
  obtain ⟨rfl, hsz, hP, hK, hD0⟩ := hv
  have hx := B.exec
  have hb := B.bytes
  have hr := B.returns
  have hts := atoms_spec (ws := wsX6_addStir) B.pre
  have hown : s.vm.findClass RX6 = some m.cls := findClass_of_methodNamed B.named
  have hlocks := B.notSynchronized
  subst hsz
  have hD := hD0.self (sz := s.heap.size)
  generalize hAe : va_A [(a_p0, .inr (6, [.int (Int32.ofInt i_p0_seats), .int (Int32.ofInt i_p0_stirs), .ref a_p0_need, .ref a_p0_kind, .ref a_p0_first, .ref a_p0_second, .ref a_p0_after])), (a_p0_kind, .inl (G 1, 5, .inl (zA v_p0_kind))), (a_p0_first, .inl (G 1, 5, .inl (zA v_p0_first))), (a_p0_second, .inl (G 1, 5, .inl (zA v_p0_second)))] s.heap.size = A at hD ⊢
  have hA : ∀ q : Nat, s.heap.size ≤ q → A q := fun q h => by rw [← hAe]; exact Or.inr h
  clear hAe hD0
  have hS : va_S A s.heap s.heap [] := va_S.rf
  have hl := lv_entry ([.ref a_p0, .int (Int32.ofInt x1), .int (Int32.ofInt x2), .int (Int32.ofInt x3)]) (n := 4) (Nat.le_of_ble_eq_true rfl)
  rw [lg_entry_eq]
  generalize (lg_sl ([.ref a_p0, .int (Int32.ofInt x1), .int (Int32.ofInt x2), .int (Int32.ofInt x3)]) ++ List.replicate (4 - (lg_sl ([.ref a_p0, .int (Int32.ofInt x1), .int (Int32.ofInt x2), .int (Int32.ofInt x3)])).length) Slot.unset).toArray = ls at hl ⊢
  have hl : lv_has ls 4 [(0, .ref a_p0), (1, .int (Int32.ofInt x1)), (2, .int (Int32.ofInt x2)), (3, .int (Int32.ofInt x3))] := hl
  refine W_nameQ (fun Q hQ => ?_)
  obtain ⟨H, hH⟩ : ∃ H, H = s.heap := ⟨_, rfl⟩
  replace hS : va_S A s.heap H [] := by rw [hH]; exact hS
  replace hP : va_P D vwCl [(a_p0, .inr (6, [.int (Int32.ofInt i_p0_seats), .int (Int32.ofInt i_p0_stirs), .ref a_p0_need, .ref a_p0_kind, .ref a_p0_first, .ref a_p0_second, .ref a_p0_after])), (a_p0_kind, .inl (G 1, 5, .inl (zA v_p0_kind))), (a_p0_first, .inl (G 1, 5, .inl (zA v_p0_first))), (a_p0_second, .inl (G 1, 5, .inl (zA v_p0_second)))] H := by rw [hH]; exact hP
  rw [← hH]
  clear hH
  unfold f_X6_addStir at hf
  refine lv_aload_n hx hb dX6_addStir_0 rfl (lv_at hl 0 rfl) ?_
  refine va_get (D := D) (ci := 6) (v := .int (Int32.ofInt i_p0_stirs)) (C := RX6) (T := TX6) (N := 7) hx hb hts inX6_addStir_X6 hown hK hP 0 rfl rfl 1 (by decide) (hts _ mwX6_addStir_1) (fun _ h9 => h9) rfl dX6_addStir_1 ?_
  refine lv_iconst (v := Int32.ofInt (5 : Int)) hx hb dX6_addStir_4 (by decide) ?_
  have hr0 := ck_c hf
  replace hf := ck_r hf
  refine lv_icmp_ge (tgt := 48) hx hb dX6_addStir_5 (by decide) (fun cc => ?_) (fun cc => ?_)
  ·
    replace hf := ite_t ((z_le (by decide) hr0).mp cc) hf
    clear cc
    obtain ⟨rfl, rfl, rfl, rfl⟩ := ou4 hf
    rw [hQ]
    exact W.vret hx hb hr (fun t ht hW => ⟨⟨(), rfl, trivial, by rw [ht]; exact hP, va_K.moved hW.alike hK, hD⟩, hS.F ht⟩) hS.2.2 dX6_addStir_48
  ·
    replace hf := ite_f (fun h9 => cc ((z_le (by decide) hr0).mpr h9)) hf
    clear cc
    refine lv_aload_n hx hb dX6_addStir_8 rfl (lv_at hl 0 rfl) ?_
    refine va_get (D := D) (ci := 6) (v := .ref a_p0_kind) (C := RX6) (T := TX6) (N := 7) hx hb hts inX6_addStir_X6 hown hK hP 0 rfl rfl 3 (by decide) (hts _ mwX6_addStir_2) (fun _ h9 => h9) rfl dX6_addStir_9 ?_
    refine lv_aload_n hx hb dX6_addStir_12 rfl (lv_at hl 0 rfl) ?_
    refine va_get (D := D) (ci := 6) (v := .int (Int32.ofInt i_p0_stirs)) (C := RX6) (T := TX6) (N := 7) hx hb hts inX6_addStir_X6 hown hK hP 0 rfl rfl 1 (by decide) (hts _ mwX6_addStir_1) (fun _ h9 => h9) rfl dX6_addStir_13 ?_
    refine lv_iload_n hx hb dX6_addStir_16 rfl (lv_at hl 1 rfl) ?_
    have hc := ck_c hf
    replace hf := ck_r hf
    refine zs_iast (wf := fun w2 => [(a_p0, .inr (6, [.int (Int32.ofInt i_p0_seats), .int (Int32.ofInt i_p0_stirs), .ref a_p0_need, .ref a_p0_kind, .ref a_p0_first, .ref a_p0_second, .ref a_p0_after])), (a_p0_kind, .inl (G 1, 5, .inl (zA w2))), (a_p0_first, .inl (G 1, 5, .inl (zA v_p0_first))), (a_p0_second, .inl (G 1, 5, .inl (zA v_p0_second)))]) hx hb hK hP hD hS 1 1 rfl rfl hc dX6_addStir_17 (fun _ => rfl) (fun w2 ez H locs hP hD hS => ?_)
    replace hf := bnd_s hf ez
    clear ez hc
    refine lv_aload_n hx hb dX6_addStir_18 rfl (lv_at hl 0 rfl) ?_
    refine va_get (D := D) (ci := 6) (v := .ref a_p0_first) (C := RX6) (T := TX6) (N := 7) hx hb hts inX6_addStir_X6 hown hK hP 0 rfl rfl 4 (by decide) (hts _ mwX6_addStir_3) (fun _ h9 => h9) rfl dX6_addStir_19 ?_
    refine lv_aload_n hx hb dX6_addStir_22 rfl (lv_at hl 0 rfl) ?_
    refine va_get (D := D) (ci := 6) (v := .int (Int32.ofInt i_p0_stirs)) (C := RX6) (T := TX6) (N := 7) hx hb hts inX6_addStir_X6 hown hK hP 0 rfl rfl 1 (by decide) (hts _ mwX6_addStir_1) (fun _ h9 => h9) rfl dX6_addStir_23 ?_
    refine lv_iload_n hx hb dX6_addStir_26 rfl (lv_at hl 2 rfl) ?_
    have hc := ck_c hf
    replace hf := ck_r hf
    refine zs_iast (wf := fun w3 => [(a_p0, .inr (6, [.int (Int32.ofInt i_p0_seats), .int (Int32.ofInt i_p0_stirs), .ref a_p0_need, .ref a_p0_kind, .ref a_p0_first, .ref a_p0_second, .ref a_p0_after])), (a_p0_kind, .inl (G 1, 5, .inl (zA w2))), (a_p0_first, .inl (G 1, 5, .inl (zA w3))), (a_p0_second, .inl (G 1, 5, .inl (zA v_p0_second)))]) hx hb hK hP hD hS 2 1 rfl rfl hc dX6_addStir_27 (fun _ => rfl) (fun w3 ez H locs hP hD hS => ?_)
    replace hf := bnd_s hf ez
    clear ez hc
    refine lv_aload_n hx hb dX6_addStir_28 rfl (lv_at hl 0 rfl) ?_
    refine va_get (D := D) (ci := 6) (v := .ref a_p0_second) (C := RX6) (T := TX6) (N := 7) hx hb hts inX6_addStir_X6 hown hK hP 0 rfl rfl 5 (by decide) (hts _ mwX6_addStir_4) (fun _ h9 => h9) rfl dX6_addStir_29 ?_
    refine lv_aload_n hx hb dX6_addStir_32 rfl (lv_at hl 0 rfl) ?_
    refine va_get (D := D) (ci := 6) (v := .int (Int32.ofInt i_p0_stirs)) (C := RX6) (T := TX6) (N := 7) hx hb hts inX6_addStir_X6 hown hK hP 0 rfl rfl 1 (by decide) (hts _ mwX6_addStir_1) (fun _ h9 => h9) rfl dX6_addStir_33 ?_
    refine lv_iload_n hx hb dX6_addStir_36 rfl (lv_at hl 3 rfl) ?_
    have hc := ck_c hf
    replace hf := ck_r hf
    refine zs_iast (wf := fun w4 => [(a_p0, .inr (6, [.int (Int32.ofInt i_p0_seats), .int (Int32.ofInt i_p0_stirs), .ref a_p0_need, .ref a_p0_kind, .ref a_p0_first, .ref a_p0_second, .ref a_p0_after])), (a_p0_kind, .inl (G 1, 5, .inl (zA w2))), (a_p0_first, .inl (G 1, 5, .inl (zA w3))), (a_p0_second, .inl (G 1, 5, .inl (zA w4)))]) hx hb hK hP hD hS 3 1 rfl rfl hc dX6_addStir_37 (fun _ => rfl) (fun w4 ez H locs hP hD hS => ?_)
    replace hf := bnd_s hf ez
    clear ez hc
    refine lv_aload_n hx hb dX6_addStir_38 rfl (lv_at hl 0 rfl) ?_
    refine lv_dup hx hb dX6_addStir_39 rfl ?_
    refine va_get (D := D) (ci := 6) (v := .int (Int32.ofInt i_p0_stirs)) (C := RX6) (T := TX6) (N := 7) hx hb hts inX6_addStir_X6 hown hK hP 0 rfl rfl 1 (by decide) (hts _ mwX6_addStir_1) (fun _ h9 => h9) rfl dX6_addStir_40 ?_
    refine lv_iconst (v := Int32.ofInt (1 : Int)) hx hb dX6_addStir_43 (by decide) ?_
    refine lv_iadd hx hb dX6_addStir_44 (z_ci (Int32.ofInt_add i_p0_stirs (1 : Int)) ?_)
    refine z_topi (fun z5 ez => ?_)
    replace hf := bnd_s hf ez
    clear ez
    refine va_put (D := D) (ci := 6) (v := .int (Int32.ofInt z5)) (ty := .int) (C := RX6) (T := TX6) (N := 7) hx hb hts inX6_addStir_X6 tyX6 tyX6_ok nmX6 hown hK hP hD hS 0 rfl rfl 1 (by decide) (hts _ mwX6_addStir_1) (fun _ h9 => h9) rfl (by decide +kernel) rfl rfl (Nat.le_of_ble_eq_true rfl) dX6_addStir_45 (fun H locs hP hD hS => ?_)
    have hP : va_P D vwCl [(a_p0, .inr (6, [.int (Int32.ofInt i_p0_seats), .int (Int32.ofInt z5), .ref a_p0_need, .ref a_p0_kind, .ref a_p0_first, .ref a_p0_second, .ref a_p0_after])), (a_p0_kind, .inl (G 1, 5, .inl (zA w2))), (a_p0_first, .inl (G 1, 5, .inl (zA w3))), (a_p0_second, .inl (G 1, 5, .inl (zA w4)))] H := hP
    have hD : va_D A [(a_p0, .inr (6, [.int (Int32.ofInt i_p0_seats), .int (Int32.ofInt z5), .ref a_p0_need, .ref a_p0_kind, .ref a_p0_first, .ref a_p0_second, .ref a_p0_after])), (a_p0_kind, .inl (G 1, 5, .inl (zA w2))), (a_p0_first, .inl (G 1, 5, .inl (zA w3))), (a_p0_second, .inl (G 1, 5, .inl (zA w4)))] := hD
    obtain ⟨rfl, rfl, rfl, rfl⟩ := ou4 hf
    rw [hQ]
    exact W.vret hx hb hr (fun t ht hW => ⟨⟨(), rfl, trivial, by rw [ht]; exact hP, va_K.moved hW.alike hK, hD⟩, hS.F ht⟩) hS.2.2 dX6_addStir_48

noncomputable def f_X6_swapped (x0 : Int) (x1 : Int) (x2 : Int) : Option (Int) := (ck (z_r32 x0) (ck (z_r32 x1) (if x0 = x1 then (some x2) else (ck (z_r32 x2) (if x0 = x2 then (some x1) else (some x0))))))
abbrev rm_X6_swapped : Room := { frames := 0, cells := 0, slots := 0, locals := 0 }
set_option maxHeartbeats 8000000 in
set_option maxRecDepth 100000 in
theorem c_X6_swapped (l : Launch) (D : va_G) (G : Nat → ClassId) (sz : Nat) (x0 : Int) (x1 : Int) (x2 : Int) (r : Int) (hf : f_X6_swapped x0 x1 x2 = some r) : Met l yX6_swapped wsX6_swapped rm_X6_swapped (pcG D G [.int (Int32.ofInt x0), .int (Int32.ofInt x1), .int (Int32.ofInt x2)] sz []) (qcI D G (Int32.ofInt r) [] (va_A [] sz)) 0 0 (va_A [] sz) := by
  refine Met.ofW (cc := cX6_swapped) (maxL := 3) (ret := (some .int)) (by decide) rfl ?_
  intro p e s m args below meth c s₁ B hml hv
  obtain ⟨rfl, hsz, hP, hK, hD0⟩ := hv
  have hx := B.exec
  have hb := B.bytes
  have hr := B.returns
  have hts := atoms_spec (ws := wsX6_swapped) B.pre
  have hown : s.vm.findClass RX6 = some m.cls := findClass_of_methodNamed B.named
  have hlocks := B.notSynchronized
  subst hsz
  have hD := hD0.self (sz := s.heap.size)
  generalize hAe : va_A [] s.heap.size = A at hD ⊢
  have hA : ∀ q : Nat, s.heap.size ≤ q → A q := fun q h => by rw [← hAe]; exact Or.inr h
  clear hAe hD0
  have hS : va_S A s.heap s.heap [] := va_S.rf
  have hl := lv_entry ([.int (Int32.ofInt x0), .int (Int32.ofInt x1), .int (Int32.ofInt x2)]) (n := 3) (Nat.le_of_ble_eq_true rfl)
  rw [lg_entry_eq]
  generalize (lg_sl ([.int (Int32.ofInt x0), .int (Int32.ofInt x1), .int (Int32.ofInt x2)]) ++ List.replicate (3 - (lg_sl ([.int (Int32.ofInt x0), .int (Int32.ofInt x1), .int (Int32.ofInt x2)])).length) Slot.unset).toArray = ls at hl ⊢
  have hl : lv_has ls 3 [(0, .int (Int32.ofInt x0)), (1, .int (Int32.ofInt x1)), (2, .int (Int32.ofInt x2))] := hl
  refine W_nameQ (fun Q hQ => ?_)
  obtain ⟨H, hH⟩ : ∃ H, H = s.heap := ⟨_, rfl⟩
  replace hS : va_S A s.heap H [] := by rw [hH]; exact hS
  replace hP : va_P D vwCl [] H := by rw [hH]; exact hP
  rw [← hH]
  clear hH
  unfold f_X6_swapped at hf
  refine lv_iload_n hx hb dX6_swapped_0 rfl (lv_at hl 0 rfl) ?_
  refine lv_iload_n hx hb dX6_swapped_1 rfl (lv_at hl 1 rfl) ?_
  have hr0 := ck_c hf
  replace hf := ck_r hf
  have hr1 := ck_c hf
  replace hf := ck_r hf
  refine lv_icmp_ne (tgt := 7) hx hb dX6_swapped_2 (by decide) (fun cc => ?_) (fun cc => ?_)
  ·
    replace hf := ite_f (fun h9 => cc ((z_eq hr0 hr1).mpr h9)) hf
    clear cc
    refine lv_iload_n hx hb dX6_swapped_7 rfl (lv_at hl 0 rfl) ?_
    refine lv_iload_n hx hb dX6_swapped_8 rfl (lv_at hl 2 rfl) ?_
    have hr2 := ck_c hf
    replace hf := ck_r hf
    refine lv_icmp_ne (tgt := 16) hx hb dX6_swapped_9 (by decide) (fun cc => ?_) (fun cc => ?_)
    ·
      replace hf := ite_f (fun h9 => cc ((z_eq hr0 hr2).mpr h9)) hf
      clear cc
      refine lv_iload_n hx hb dX6_swapped_16 rfl (lv_at hl 0 rfl) ?_
      obtain rfl := ou1 hf
      rw [hQ]
      exact W.iret hx hb hr (fun t ht hW => ⟨⟨_, (), rfl, rfl, by rw [ht]; exact hP, va_K.moved hW.alike hK, hD⟩, hS.F ht⟩) hS.2.2 dX6_swapped_17
    ·
      replace hf := ite_t ((z_eq hr0 hr2).mp cc) hf
      clear cc
      refine lv_iload_n hx hb dX6_swapped_12 rfl (lv_at hl 1 rfl) ?_
      refine lv_goto (tgt := 17) hx hb dX6_swapped_13 (by decide) ?_
      obtain rfl := ou1 hf
      rw [hQ]
      exact W.iret hx hb hr (fun t ht hW => ⟨⟨_, (), rfl, rfl, by rw [ht]; exact hP, va_K.moved hW.alike hK, hD⟩, hS.F ht⟩) hS.2.2 dX6_swapped_17
  ·
    replace hf := ite_t ((z_eq hr0 hr1).mp cc) hf
    clear cc
    refine lv_iload_n hx hb dX6_swapped_5 rfl (lv_at hl 2 rfl) ?_
    obtain rfl := ou1 hf
    rw [hQ]
    exact W.iret hx hb hr (fun t ht hW => ⟨⟨_, (), rfl, rfl, by rw [ht]; exact hP, va_K.moved hW.alike hK, hD⟩, hS.F ht⟩) hS.2.2 dX6_swapped_6

noncomputable def f_X6_lifted (x0 : Int) (x1 : Int) : Option (Int) := (ck (z_r32 x0) (ck (z_r32 x1) (if x0 = x1 then (some (0 : Int)) else (if x1 ≤ x0 then (some x0) else (some (x0 + (1 : Int)))))))
abbrev rm_X6_lifted : Room := { frames := 0, cells := 0, slots := 0, locals := 0 }
set_option maxHeartbeats 8000000 in
set_option maxRecDepth 100000 in
theorem c_X6_lifted (l : Launch) (D : va_G) (G : Nat → ClassId) (sz : Nat) (x0 : Int) (x1 : Int) (r : Int) (hf : f_X6_lifted x0 x1 = some r) : Met l yX6_lifted wsX6_lifted rm_X6_lifted (pcG D G [.int (Int32.ofInt x0), .int (Int32.ofInt x1)] sz []) (qcI D G (Int32.ofInt r) [] (va_A [] sz)) 0 0 (va_A [] sz) := by
  refine Met.ofW (cc := cX6_lifted) (maxL := 2) (ret := (some .int)) (by decide) rfl ?_
  intro p e s m args below meth c s₁ B hml hv
  obtain ⟨rfl, hsz, hP, hK, hD0⟩ := hv
  have hx := B.exec
  have hb := B.bytes
  have hr := B.returns
  have hts := atoms_spec (ws := wsX6_lifted) B.pre
  have hown : s.vm.findClass RX6 = some m.cls := findClass_of_methodNamed B.named
  have hlocks := B.notSynchronized
  subst hsz
  have hD := hD0.self (sz := s.heap.size)
  generalize hAe : va_A [] s.heap.size = A at hD ⊢
  have hA : ∀ q : Nat, s.heap.size ≤ q → A q := fun q h => by rw [← hAe]; exact Or.inr h
  clear hAe hD0
  have hS : va_S A s.heap s.heap [] := va_S.rf
  have hl := lv_entry ([.int (Int32.ofInt x0), .int (Int32.ofInt x1)]) (n := 2) (Nat.le_of_ble_eq_true rfl)
  rw [lg_entry_eq]
  generalize (lg_sl ([.int (Int32.ofInt x0), .int (Int32.ofInt x1)]) ++ List.replicate (2 - (lg_sl ([.int (Int32.ofInt x0), .int (Int32.ofInt x1)])).length) Slot.unset).toArray = ls at hl ⊢
  have hl : lv_has ls 2 [(0, .int (Int32.ofInt x0)), (1, .int (Int32.ofInt x1))] := hl
  refine W_nameQ (fun Q hQ => ?_)
  obtain ⟨H, hH⟩ : ∃ H, H = s.heap := ⟨_, rfl⟩
  replace hS : va_S A s.heap H [] := by rw [hH]; exact hS
  replace hP : va_P D vwCl [] H := by rw [hH]; exact hP
  rw [← hH]
  clear hH
  unfold f_X6_lifted at hf
  refine lv_iload_n hx hb dX6_lifted_0 rfl (lv_at hl 0 rfl) ?_
  refine lv_iload_n hx hb dX6_lifted_1 rfl (lv_at hl 1 rfl) ?_
  have hr0 := ck_c hf
  replace hf := ck_r hf
  have hr1 := ck_c hf
  replace hf := ck_r hf
  refine lv_icmp_ne (tgt := 7) hx hb dX6_lifted_2 (by decide) (fun cc => ?_) (fun cc => ?_)
  ·
    replace hf := ite_f (fun h9 => cc ((z_eq hr0 hr1).mpr h9)) hf
    clear cc
    refine lv_iload_n hx hb dX6_lifted_7 rfl (lv_at hl 0 rfl) ?_
    refine lv_iload_n hx hb dX6_lifted_8 rfl (lv_at hl 1 rfl) ?_
    refine lv_icmp_ge (tgt := 18) hx hb dX6_lifted_9 (by decide) (fun cc => ?_) (fun cc => ?_)
    ·
      replace hf := ite_t ((z_le hr1 hr0).mp cc) hf
      clear cc
      refine lv_iload_n hx hb dX6_lifted_18 rfl (lv_at hl 0 rfl) ?_
      obtain rfl := ou1 hf
      rw [hQ]
      exact W.iret hx hb hr (fun t ht hW => ⟨⟨_, (), rfl, rfl, by rw [ht]; exact hP, va_K.moved hW.alike hK, hD⟩, hS.F ht⟩) hS.2.2 dX6_lifted_19
    ·
      replace hf := ite_f (fun h9 => cc ((z_le hr1 hr0).mpr h9)) hf
      clear cc
      refine lv_iload_n hx hb dX6_lifted_12 rfl (lv_at hl 0 rfl) ?_
      refine lv_iconst (v := Int32.ofInt (1 : Int)) hx hb dX6_lifted_13 (by decide) ?_
      refine lv_iadd hx hb dX6_lifted_14 (z_ci (Int32.ofInt_add x0 (1 : Int)) ?_)
      refine lv_goto (tgt := 19) hx hb dX6_lifted_15 (by decide) ?_
      obtain rfl := ou1 hf
      rw [hQ]
      exact W.iret hx hb hr (fun t ht hW => ⟨⟨_, (), rfl, rfl, by rw [ht]; exact hP, va_K.moved hW.alike hK, hD⟩, hS.F ht⟩) hS.2.2 dX6_lifted_19
  ·
    replace hf := ite_t ((z_eq hr0 hr1).mp cc) hf
    clear cc
    refine lv_iconst (v := Int32.ofInt (0 : Int)) hx hb dX6_lifted_5 (by decide) ?_
    obtain rfl := ou1 hf
    rw [hQ]
    exact W.iret hx hb hr (fun t ht hW => ⟨⟨_, (), rfl, rfl, by rw [ht]; exact hP, va_K.moved hW.alike hK, hD⟩, hS.F ht⟩) hS.2.2 dX6_lifted_6

noncomputable def f_X6_workOut (i_p0_seats : Int) (v_p0_kind : (Int → Int)) (v_p0_first : (Int → Int)) (v_p0_second : (Int → Int)) (x1 : Int) (x2 : Int) : Option (Int) := (ck (z_ix x1 5) (ck (z_r32 (v_p0_kind x1)) (if (v_p0_kind x1) = (7 : Int) then (ck (z_ix x1 5) (bd1 (f_X6_inRing i_p0_seats (x2 + (v_p0_first x1))) (fun (z3 : Int) => (some z3)))) else (if (v_p0_kind x1) = (8 : Int) then (some ((i_p0_seats - (1 : Int)) - x2)) else (if (v_p0_kind x1) = (9 : Int) then (ck (z_ix x1 5) (ck (z_ix x1 5) (bd1 (f_X6_swapped x2 (v_p0_first x1) (v_p0_second x1)) (fun (z6 : Int) => (some z6))))) else (ck (z_ix x1 5) (bd1 (f_X6_lifted x2 (v_p0_first x1)) (fun (z7 : Int) => (some z7)))))))))
abbrev rm_X6_workOut : Room := { frames := 1, cells := 0, slots := 0, locals := 23 }
theorem inX6_workOut_X6 : ∀ w ∈ wsX60, w ∈ wsX6_workOut := by first | exact fun w h => List.mem_cons_of_mem _ (List.mem_append_right _ h) | decide +kernel
theorem mwX6_workOut_1 : Cond.fieldLink RX6 22 "LadleKings$Rules" "kind" "[I" ∈ wsX6_workOut := by first | exact List.mem_of_getElem? (i := 1) rfl | decide +kernel
theorem mwX6_workOut_2 : Cond.fieldLink RX6 25 "LadleKings$Rules" "first" "[I" ∈ wsX6_workOut := by first | exact List.mem_of_getElem? (i := 2) rfl | decide +kernel
theorem mwX6_workOut_3 : Cond.fieldLink RX6 9 "LadleKings$Rules" "seats" "I" ∈ wsX6_workOut := by first | exact List.mem_of_getElem? (i := 3) rfl | decide +kernel
theorem mwX6_workOut_4 : Cond.fieldLink RX6 28 "LadleKings$Rules" "second" "[I" ∈ wsX6_workOut := by first | exact List.mem_of_getElem? (i := 4) rfl | decide +kernel
set_option maxHeartbeats 8000000 in
set_option maxRecDepth 100000 in
theorem c_X6_workOut (l : Launch) (D : va_G) (G : Nat → ClassId) (sz : Nat) (a_p0 : Nat) (a_p0_need : Nat) (a_p0_kind : Nat) (a_p0_first : Nat) (a_p0_second : Nat) (a_p0_after : Nat) (i_p0_seats : Int) (i_p0_stirs : Int) (v_p0_kind : (Int → Int)) (v_p0_first : (Int → Int)) (v_p0_second : (Int → Int)) (x1 : Int) (x2 : Int) (r : Int) (hf : f_X6_workOut i_p0_seats v_p0_kind v_p0_first v_p0_second x1 x2 = some r) : Met l yX6_workOut wsX6_workOut rm_X6_workOut (pcG D G [.ref a_p0, .int (Int32.ofInt x1), .int (Int32.ofInt x2)] sz [(a_p0, .inr (6, [.int (Int32.ofInt i_p0_seats), .int (Int32.ofInt i_p0_stirs), .ref a_p0_need, .ref a_p0_kind, .ref a_p0_first, .ref a_p0_second, .ref a_p0_after])), (a_p0_kind, .inl (G 1, 5, .inl (zA v_p0_kind))), (a_p0_first, .inl (G 1, 5, .inl (zA v_p0_first))), (a_p0_second, .inl (G 1, 5, .inl (zA v_p0_second)))]) (qcI D G (Int32.ofInt r) [(a_p0, .inr (6, [.int (Int32.ofInt i_p0_seats), .int (Int32.ofInt i_p0_stirs), .ref a_p0_need, .ref a_p0_kind, .ref a_p0_first, .ref a_p0_second, .ref a_p0_after])), (a_p0_kind, .inl (G 1, 5, .inl (zA v_p0_kind))), (a_p0_first, .inl (G 1, 5, .inl (zA v_p0_first))), (a_p0_second, .inl (G 1, 5, .inl (zA v_p0_second)))] (va_A [(a_p0, .inr (6, [.int (Int32.ofInt i_p0_seats), .int (Int32.ofInt i_p0_stirs), .ref a_p0_need, .ref a_p0_kind, .ref a_p0_first, .ref a_p0_second, .ref a_p0_after])), (a_p0_kind, .inl (G 1, 5, .inl (zA v_p0_kind))), (a_p0_first, .inl (G 1, 5, .inl (zA v_p0_first))), (a_p0_second, .inl (G 1, 5, .inl (zA v_p0_second)))] sz)) 0 0 (va_A [(a_p0, .inr (6, [.int (Int32.ofInt i_p0_seats), .int (Int32.ofInt i_p0_stirs), .ref a_p0_need, .ref a_p0_kind, .ref a_p0_first, .ref a_p0_second, .ref a_p0_after])), (a_p0_kind, .inl (G 1, 5, .inl (zA v_p0_kind))), (a_p0_first, .inl (G 1, 5, .inl (zA v_p0_first))), (a_p0_second, .inl (G 1, 5, .inl (zA v_p0_second)))] sz) := by
  refine Met.ofW (cc := cX6_workOut) (maxL := 3) (ret := (some .int)) (by decide) rfl ?_
  intro p e s m args below meth c s₁ B hml hv
  obtain ⟨rfl, hsz, hP, hK, hD0⟩ := hv
  have hx := B.exec
  have hb := B.bytes
  have hr := B.returns
  have hts := atoms_spec (ws := wsX6_workOut) B.pre
  have hown : s.vm.findClass RX6 = some m.cls := findClass_of_methodNamed B.named
  have hlocks := B.notSynchronized
  subst hsz
  have hD := hD0.self (sz := s.heap.size)
  generalize hAe : va_A [(a_p0, .inr (6, [.int (Int32.ofInt i_p0_seats), .int (Int32.ofInt i_p0_stirs), .ref a_p0_need, .ref a_p0_kind, .ref a_p0_first, .ref a_p0_second, .ref a_p0_after])), (a_p0_kind, .inl (G 1, 5, .inl (zA v_p0_kind))), (a_p0_first, .inl (G 1, 5, .inl (zA v_p0_first))), (a_p0_second, .inl (G 1, 5, .inl (zA v_p0_second)))] s.heap.size = A at hD ⊢
  have hA : ∀ q : Nat, s.heap.size ≤ q → A q := fun q h => by rw [← hAe]; exact Or.inr h
  clear hAe hD0
  have hS : va_S A s.heap s.heap [] := va_S.rf
  have hl := lv_entry ([.ref a_p0, .int (Int32.ofInt x1), .int (Int32.ofInt x2)]) (n := 3) (Nat.le_of_ble_eq_true rfl)
  rw [lg_entry_eq]
  generalize (lg_sl ([.ref a_p0, .int (Int32.ofInt x1), .int (Int32.ofInt x2)]) ++ List.replicate (3 - (lg_sl ([.ref a_p0, .int (Int32.ofInt x1), .int (Int32.ofInt x2)])).length) Slot.unset).toArray = ls at hl ⊢
  have hl : lv_has ls 3 [(0, .ref a_p0), (1, .int (Int32.ofInt x1)), (2, .int (Int32.ofInt x2))] := hl
  refine W_nameQ (fun Q hQ => ?_)
  obtain ⟨H, hH⟩ : ∃ H, H = s.heap := ⟨_, rfl⟩
  replace hS : va_S A s.heap H [] := by rw [hH]; exact hS
  replace hP : va_P D vwCl [(a_p0, .inr (6, [.int (Int32.ofInt i_p0_seats), .int (Int32.ofInt i_p0_stirs), .ref a_p0_need, .ref a_p0_kind, .ref a_p0_first, .ref a_p0_second, .ref a_p0_after])), (a_p0_kind, .inl (G 1, 5, .inl (zA v_p0_kind))), (a_p0_first, .inl (G 1, 5, .inl (zA v_p0_first))), (a_p0_second, .inl (G 1, 5, .inl (zA v_p0_second)))] H := by rw [hH]; exact hP
  rw [← hH]
  clear hH
  unfold f_X6_workOut at hf
  refine lv_aload_n hx hb dX6_workOut_0 rfl (lv_at hl 0 rfl) ?_
  refine va_get (D := D) (ci := 6) (v := .ref a_p0_kind) (C := RX6) (T := TX6) (N := 7) hx hb hts inX6_workOut_X6 hown hK hP 0 rfl rfl 3 (by decide) (hts _ mwX6_workOut_1) (fun _ h9 => h9) rfl dX6_workOut_1 ?_
  refine lv_iload_n hx hb dX6_workOut_4 rfl (lv_at hl 1 rfl) ?_
  have hc := ck_c hf
  replace hf := ck_r hf
  refine va_iald hx hb hK hP 1 1 rfl rfl (z_ix_in hc) dX6_workOut_5 (z_ci (z_ald v_p0_kind hc) ?_)
  clear hc
  have hr0 := ck_c hf
  replace hf := ck_r hf
  rcases Decidable.em ((v_p0_kind x1) = (7 : Int)) with hk2 | hk2
  ·
    replace hf := ite_t hk2 hf
    refine lv_tableIn (tgt := 32) hx hb dX6_workOut_6 (by rw [hk2]; decide) (by rw [hk2]; decide) (by rw [hk2]; rfl) (by decide) ?_
    clear hk2
    refine lv_aload_n hx hb dX6_workOut_32 rfl (lv_at hl 0 rfl) ?_
    refine lv_iload_n hx hb dX6_workOut_33 rfl (lv_at hl 2 rfl) ?_
    refine lv_aload_n hx hb dX6_workOut_34 rfl (lv_at hl 0 rfl) ?_
    refine va_get (D := D) (ci := 6) (v := .ref a_p0_first) (C := RX6) (T := TX6) (N := 7) hx hb hts inX6_workOut_X6 hown hK hP 0 rfl rfl 4 (by decide) (hts _ mwX6_workOut_2) (fun _ h9 => h9) rfl dX6_workOut_35 ?_
    refine lv_iload_n hx hb dX6_workOut_38 rfl (lv_at hl 1 rfl) ?_
    have hc := ck_c hf
    replace hf := ck_r hf
    refine va_iald hx hb hK hP 2 1 rfl rfl (z_ix_in hc) dX6_workOut_39 (z_ci (z_ald v_p0_first hc) ?_)
    clear hc
    refine lv_iadd hx hb dX6_workOut_40 (z_ci (Int32.ofInt_add x2 (v_p0_first x1)) ?_)
    have hq := bd1_s hf
    clear hf
    obtain ⟨z3, hcall, hf⟩ := hq
    refine gnI (va_runV (As := [.int (Int32.ofInt (x2 + (v_p0_first x1)))]) (rest := []) ⟨hx, hb, hml, hown, hts⟩ (c_X6_inRing (l := l) (D := D) (G := G) (sz := H.size) (a_p0 := a_p0) (a_p0_need := a_p0_need) (a_p0_kind := a_p0_kind) (a_p0_first := a_p0_first) (a_p0_second := a_p0_second) (a_p0_after := a_p0_after) (i_p0_seats := i_p0_seats) (i_p0_stirs := i_p0_stirs) (x1 := (x2 + (v_p0_first x1))) (r := z3) (hf := hcall)) (cwV 1 hts gX6_workOut_X6_inRing rfl rfl rfl hdV_yX6_inRing_RX6 ⟨Nat.le_of_ble_eq_true rfl, Nat.le_of_ble_eq_true rfl⟩) (preG_V (ci := 6) (q := (RX6, TX6, 7)) (hP.sub [0] rfl) (hD.sub [0] rfl rfl) hK rfl rfl) rfl rfl hl.1 rfl (lv_room (Nat.le_of_ble_eq_true rfl)) dX6_workOut_41 ⟨Nat.le_of_ble_eq_true rfl, Nat.le_of_ble_eq_true rfl⟩) hP hD hS hA [0] rfl (fun H locs hP hD hS => ?_)
    clear hcall
    obtain rfl := ou1 hf
    rw [hQ]
    exact W.iret hx hb hr (fun t ht hW => ⟨⟨_, (), rfl, rfl, by rw [ht]; exact hP, va_K.moved hW.alike hK, hD⟩, hS.F ht⟩) hS.2.2 dX6_workOut_44
  replace hf := ite_f hk2 hf
  rcases Decidable.em ((v_p0_kind x1) = (8 : Int)) with hk4 | hk4
  ·
    replace hf := ite_t hk4 hf
    refine lv_tableIn (tgt := 45) hx hb dX6_workOut_6 (by rw [hk4]; decide) (by rw [hk4]; decide) (by rw [hk4]; rfl) (by decide) ?_
    clear hk4 hk2
    refine lv_aload_n hx hb dX6_workOut_45 rfl (lv_at hl 0 rfl) ?_
    refine va_get (D := D) (ci := 6) (v := .int (Int32.ofInt i_p0_seats)) (C := RX6) (T := TX6) (N := 7) hx hb hts inX6_workOut_X6 hown hK hP 0 rfl rfl 0 (by decide) (hts _ mwX6_workOut_3) (fun _ h9 => h9) rfl dX6_workOut_46 ?_
    refine lv_iconst (v := Int32.ofInt (1 : Int)) hx hb dX6_workOut_49 (by decide) ?_
    refine lv_isub hx hb dX6_workOut_50 (z_ci (Int32.ofInt_sub i_p0_seats (1 : Int)) ?_)
    refine lv_iload_n hx hb dX6_workOut_51 rfl (lv_at hl 2 rfl) ?_
    refine lv_isub hx hb dX6_workOut_52 (z_ci (Int32.ofInt_sub (i_p0_seats - (1 : Int)) x2) ?_)
    obtain rfl := ou1 hf
    rw [hQ]
    exact W.iret hx hb hr (fun t ht hW => ⟨⟨_, (), rfl, rfl, by rw [ht]; exact hP, va_K.moved hW.alike hK, hD⟩, hS.F ht⟩) hS.2.2 dX6_workOut_53
  replace hf := ite_f hk4 hf
  rcases Decidable.em ((v_p0_kind x1) = (9 : Int)) with hk5 | hk5
  ·
    replace hf := ite_t hk5 hf
    refine lv_tableIn (tgt := 54) hx hb dX6_workOut_6 (by rw [hk5]; decide) (by rw [hk5]; decide) (by rw [hk5]; rfl) (by decide) ?_
    clear hk5 hk2 hk4
    refine lv_iload_n hx hb dX6_workOut_54 rfl (lv_at hl 2 rfl) ?_
    refine lv_aload_n hx hb dX6_workOut_55 rfl (lv_at hl 0 rfl) ?_
    refine va_get (D := D) (ci := 6) (v := .ref a_p0_first) (C := RX6) (T := TX6) (N := 7) hx hb hts inX6_workOut_X6 hown hK hP 0 rfl rfl 4 (by decide) (hts _ mwX6_workOut_2) (fun _ h9 => h9) rfl dX6_workOut_56 ?_
    refine lv_iload_n hx hb dX6_workOut_59 rfl (lv_at hl 1 rfl) ?_
    have hc := ck_c hf
    replace hf := ck_r hf
    refine va_iald hx hb hK hP 2 1 rfl rfl (z_ix_in hc) dX6_workOut_60 (z_ci (z_ald v_p0_first hc) ?_)
    clear hc
    refine lv_aload_n hx hb dX6_workOut_61 rfl (lv_at hl 0 rfl) ?_
    refine va_get (D := D) (ci := 6) (v := .ref a_p0_second) (C := RX6) (T := TX6) (N := 7) hx hb hts inX6_workOut_X6 hown hK hP 0 rfl rfl 5 (by decide) (hts _ mwX6_workOut_4) (fun _ h9 => h9) rfl dX6_workOut_62 ?_
    refine lv_iload_n hx hb dX6_workOut_65 rfl (lv_at hl 1 rfl) ?_
    have hc := ck_c hf
    replace hf := ck_r hf
    refine va_iald hx hb hK hP 3 1 rfl rfl (z_ix_in hc) dX6_workOut_66 (z_ci (z_ald v_p0_second hc) ?_)
    clear hc
    have hq := bd1_s hf
    clear hf
    obtain ⟨z6, hcall, hf⟩ := hq
    refine gnI (va_runS (As := [.int (Int32.ofInt x2), .int (Int32.ofInt (v_p0_first x1)), .int (Int32.ofInt (v_p0_second x1))]) (rest := []) ⟨hx, hb, hml, hown, hts⟩ (c_X6_swapped (l := l) (D := D) (G := G) (sz := H.size) (x0 := x2) (x1 := (v_p0_first x1)) (x2 := (v_p0_second x1)) (r := z6) (hf := hcall)) (va_cwS 3 hts gX6_workOut_X6_swapped rfl rfl rfl (by decide +kernel) ⟨Nat.le_of_ble_eq_true rfl, Nat.le_of_ble_eq_true rfl⟩) (preG_S (hP.sub [] rfl) (hD.sub [] rfl rfl) hK) rfl rfl hl.1 rfl (lv_room (Nat.le_of_ble_eq_true rfl)) dX6_workOut_67 ⟨Nat.le_of_ble_eq_true rfl, Nat.le_of_ble_eq_true rfl⟩) hP hD hS hA [] rfl (fun H locs hP hD hS => ?_)
    clear hcall
    obtain rfl := ou1 hf
    rw [hQ]
    exact W.iret hx hb hr (fun t ht hW => ⟨⟨_, (), rfl, rfl, by rw [ht]; exact hP, va_K.moved hW.alike hK, hD⟩, hS.F ht⟩) hS.2.2 dX6_workOut_70
  replace hf := ite_f hk5 hf
  refine lv_tableOut (tgt := 71) hx hb dX6_workOut_6 (by rw [z_ti hr0]; omega) (by decide) ?_
  clear hk2 hk4 hk5
  refine lv_iload_n hx hb dX6_workOut_71 rfl (lv_at hl 2 rfl) ?_
  refine lv_aload_n hx hb dX6_workOut_72 rfl (lv_at hl 0 rfl) ?_
  refine va_get (D := D) (ci := 6) (v := .ref a_p0_first) (C := RX6) (T := TX6) (N := 7) hx hb hts inX6_workOut_X6 hown hK hP 0 rfl rfl 4 (by decide) (hts _ mwX6_workOut_2) (fun _ h9 => h9) rfl dX6_workOut_73 ?_
  refine lv_iload_n hx hb dX6_workOut_76 rfl (lv_at hl 1 rfl) ?_
  have hc := ck_c hf
  replace hf := ck_r hf
  refine va_iald hx hb hK hP 2 1 rfl rfl (z_ix_in hc) dX6_workOut_77 (z_ci (z_ald v_p0_first hc) ?_)
  clear hc
  have hq := bd1_s hf
  clear hf
  obtain ⟨z7, hcall, hf⟩ := hq
  refine gnI (va_runS (As := [.int (Int32.ofInt x2), .int (Int32.ofInt (v_p0_first x1))]) (rest := []) ⟨hx, hb, hml, hown, hts⟩ (c_X6_lifted (l := l) (D := D) (G := G) (sz := H.size) (x0 := x2) (x1 := (v_p0_first x1)) (r := z7) (hf := hcall)) (va_cwS 2 hts gX6_workOut_X6_lifted rfl rfl rfl (by decide +kernel) ⟨Nat.le_of_ble_eq_true rfl, Nat.le_of_ble_eq_true rfl⟩) (preG_S (hP.sub [] rfl) (hD.sub [] rfl rfl) hK) rfl rfl hl.1 rfl (lv_room (Nat.le_of_ble_eq_true rfl)) dX6_workOut_78 ⟨Nat.le_of_ble_eq_true rfl, Nat.le_of_ble_eq_true rfl⟩) hP hD hS hA [] rfl (fun H locs hP hD hS => ?_)
  clear hcall
  obtain rfl := ou1 hf
  rw [hQ]
  exact W.iret hx hb hr (fun t ht hW => ⟨⟨_, (), rfl, rfl, by rw [ht]; exact hP, va_K.moved hW.alike hK, hD⟩, hS.F ht⟩) hS.2.2 dX6_workOut_81

noncomputable def B_X6_workOutStirs_12 (i_p0_seats : Int) (z2 : Int) (again2 : Int → (Int → Int) → Option ((Int → Int))) (v_p0_kind : (Int → Int)) (v_p0_first : (Int → Int)) (v_p0_second : (Int → Int)) (again12 : Int → (Int → Int) → Option ((Int → Int))) (z8 : Int) (w9 : (Int → Int)) : Option ((Int → Int)) := (ck (z_r32 z8) (ck (z_r32 i_p0_seats) (if i_p0_seats ≤ z8 then (bnd (z2 + (1 : Int)) (fun (z13 : Int) => (again2 z13 w9))) else (bd1 (f_X6_workOut i_p0_seats v_p0_kind v_p0_first v_p0_second z2 z8) (fun (z14 : Int) => (ck (z_ix ((z2 * (7 : Int)) + z8) 35) (bnd (z_up w9 ((z2 * (7 : Int)) + z8) z14) (fun (w15 : (Int → Int)) => (bnd (z8 + (1 : Int)) (fun (z16 : Int) => (again12 z16 w15)))))))))))
noncomputable def B_X6_workOutStirs_2 (i_p0_stirs : Int) (i_p0_seats : Int) (v_p0_kind : (Int → Int)) (v_p0_first : (Int → Int)) (v_p0_second : (Int → Int)) (again2 : Int → (Int → Int) → Option ((Int → Int))) (z2 : Int) (w3 : (Int → Int)) : Option ((Int → Int)) := (ck (z_r32 z2) (ck (z_r32 i_p0_stirs) (if i_p0_stirs ≤ z2 then (some w3) else (bnd (0 : Int) (fun (z7 : Int) => (lq2 (B_X6_workOutStirs_12 i_p0_seats z2 again2 v_p0_kind v_p0_first v_p0_second) 1000 z7 w3))))))
noncomputable def f_X6_workOutStirs (i_p0_seats : Int) (i_p0_stirs : Int) (v_p0_kind : (Int → Int)) (v_p0_first : (Int → Int)) (v_p0_second : (Int → Int)) (v_p0_after : (Int → Int)) : Option ((Int → Int)) := (bnd (0 : Int) (fun (z1 : Int) => (lq2 (B_X6_workOutStirs_2 i_p0_stirs i_p0_seats v_p0_kind v_p0_first v_p0_second) 1000 z1 v_p0_after)))
abbrev rm_X6_workOutStirs : Room := { frames := 2, cells := 0, slots := 0, locals := 45 }
theorem inX6_workOutStirs_X6 : ∀ w ∈ wsX60, w ∈ wsX6_workOutStirs := by first | exact fun w h => List.mem_cons_of_mem _ (List.mem_append_right _ h) | decide +kernel
theorem mwX6_workOutStirs_1 : Cond.fieldLink RX6 15 "LadleKings$Rules" "stirs" "I" ∈ wsX6_workOutStirs := by first | exact List.mem_of_getElem? (i := 1) rfl | decide +kernel
theorem mwX6_workOutStirs_2 : Cond.fieldLink RX6 9 "LadleKings$Rules" "seats" "I" ∈ wsX6_workOutStirs := by first | exact List.mem_of_getElem? (i := 2) rfl | decide +kernel
theorem mwX6_workOutStirs_3 : Cond.fieldLink RX6 31 "LadleKings$Rules" "after" "[I" ∈ wsX6_workOutStirs := by first | exact List.mem_of_getElem? (i := 3) rfl | decide +kernel
theorem hdV_yX6_workOut_RX6 : yX6_workOut.cls = RX6 ∧ yX6_workOut.cls ≠ "java/lang/invoke/MethodHandle" ∧ yX6_workOut.cls ≠ "java/lang/invoke/VarHandle" ∧ (parseMethodDescriptor yX6_workOut.desc).map (fun d => d.parameters.length) = some 2 := by decide +kernel
set_option maxHeartbeats 8000000 in
set_option maxRecDepth 100000 in
theorem c_X6_workOutStirs (l : Launch) (D : va_G) (G : Nat → ClassId) (sz : Nat) (a_p0 : Nat) (a_p0_need : Nat) (a_p0_kind : Nat) (a_p0_first : Nat) (a_p0_second : Nat) (a_p0_after : Nat) (i_p0_seats : Int) (i_p0_stirs : Int) (v_p0_kind : (Int → Int)) (v_p0_first : (Int → Int)) (v_p0_second : (Int → Int)) (v_p0_after : (Int → Int)) (o_v_p0_after : (Int → Int)) (hf : f_X6_workOutStirs i_p0_seats i_p0_stirs v_p0_kind v_p0_first v_p0_second v_p0_after = some o_v_p0_after) : Met l yX6_workOutStirs wsX6_workOutStirs rm_X6_workOutStirs (pcG D G [.ref a_p0] sz [(a_p0, .inr (6, [.int (Int32.ofInt i_p0_seats), .int (Int32.ofInt i_p0_stirs), .ref a_p0_need, .ref a_p0_kind, .ref a_p0_first, .ref a_p0_second, .ref a_p0_after])), (a_p0_kind, .inl (G 1, 5, .inl (zA v_p0_kind))), (a_p0_first, .inl (G 1, 5, .inl (zA v_p0_first))), (a_p0_second, .inl (G 1, 5, .inl (zA v_p0_second))), (a_p0_after, .inl (G 1, 35, .inl (zA v_p0_after)))]) (qcV D G [(a_p0, .inr (6, [.int (Int32.ofInt i_p0_seats), .int (Int32.ofInt i_p0_stirs), .ref a_p0_need, .ref a_p0_kind, .ref a_p0_first, .ref a_p0_second, .ref a_p0_after])), (a_p0_kind, .inl (G 1, 5, .inl (zA v_p0_kind))), (a_p0_first, .inl (G 1, 5, .inl (zA v_p0_first))), (a_p0_second, .inl (G 1, 5, .inl (zA v_p0_second))), (a_p0_after, .inl (G 1, 35, .inl (zA o_v_p0_after)))] (va_A [(a_p0, .inr (6, [.int (Int32.ofInt i_p0_seats), .int (Int32.ofInt i_p0_stirs), .ref a_p0_need, .ref a_p0_kind, .ref a_p0_first, .ref a_p0_second, .ref a_p0_after])), (a_p0_kind, .inl (G 1, 5, .inl (zA v_p0_kind))), (a_p0_first, .inl (G 1, 5, .inl (zA v_p0_first))), (a_p0_second, .inl (G 1, 5, .inl (zA v_p0_second))), (a_p0_after, .inl (G 1, 35, .inl (zA v_p0_after)))] sz)) 0 0 (va_A [(a_p0, .inr (6, [.int (Int32.ofInt i_p0_seats), .int (Int32.ofInt i_p0_stirs), .ref a_p0_need, .ref a_p0_kind, .ref a_p0_first, .ref a_p0_second, .ref a_p0_after])), (a_p0_kind, .inl (G 1, 5, .inl (zA v_p0_kind))), (a_p0_first, .inl (G 1, 5, .inl (zA v_p0_first))), (a_p0_second, .inl (G 1, 5, .inl (zA v_p0_second))), (a_p0_after, .inl (G 1, 35, .inl (zA v_p0_after)))] sz) := by
  refine Met.ofW (cc := cX6_workOutStirs) (maxL := 3) (ret := none) (by decide) rfl ?_
  intro p e s m args below meth c s₁ B hml hv
  obtain ⟨rfl, hsz, hP, hK, hD0⟩ := hv
  have hx := B.exec
  have hb := B.bytes
  have hr := B.returns
  have hts := atoms_spec (ws := wsX6_workOutStirs) B.pre
  have hown : s.vm.findClass RX6 = some m.cls := findClass_of_methodNamed B.named
  have hlocks := B.notSynchronized
  subst hsz
  have hD := hD0.self (sz := s.heap.size)
  generalize hAe : va_A [(a_p0, .inr (6, [.int (Int32.ofInt i_p0_seats), .int (Int32.ofInt i_p0_stirs), .ref a_p0_need, .ref a_p0_kind, .ref a_p0_first, .ref a_p0_second, .ref a_p0_after])), (a_p0_kind, .inl (G 1, 5, .inl (zA v_p0_kind))), (a_p0_first, .inl (G 1, 5, .inl (zA v_p0_first))), (a_p0_second, .inl (G 1, 5, .inl (zA v_p0_second))), (a_p0_after, .inl (G 1, 35, .inl (zA v_p0_after)))] s.heap.size = A at hD ⊢
  have hA : ∀ q : Nat, s.heap.size ≤ q → A q := fun q h => by rw [← hAe]; exact Or.inr h
  clear hAe hD0
  have hS : va_S A s.heap s.heap [] := va_S.rf
  have hl := lv_entry ([.ref a_p0]) (n := 3) (Nat.le_of_ble_eq_true rfl)
  rw [lg_entry_eq]
  generalize (lg_sl ([.ref a_p0]) ++ List.replicate (3 - (lg_sl ([.ref a_p0])).length) Slot.unset).toArray = ls at hl ⊢
  have hl : lv_has ls 3 [(0, .ref a_p0)] := hl
  refine W_nameQ (fun Q hQ => ?_)
  obtain ⟨H, hH⟩ : ∃ H, H = s.heap := ⟨_, rfl⟩
  replace hS : va_S A s.heap H [] := by rw [hH]; exact hS
  replace hP : va_P D vwCl [(a_p0, .inr (6, [.int (Int32.ofInt i_p0_seats), .int (Int32.ofInt i_p0_stirs), .ref a_p0_need, .ref a_p0_kind, .ref a_p0_first, .ref a_p0_second, .ref a_p0_after])), (a_p0_kind, .inl (G 1, 5, .inl (zA v_p0_kind))), (a_p0_first, .inl (G 1, 5, .inl (zA v_p0_first))), (a_p0_second, .inl (G 1, 5, .inl (zA v_p0_second))), (a_p0_after, .inl (G 1, 35, .inl (zA v_p0_after)))] H := by rw [hH]; exact hP
  rw [← hH]
  clear hH
  unfold f_X6_workOutStirs at hf
  refine lv_iconst (v := Int32.ofInt (0 : Int)) hx hb dX6_workOutStirs_0 (by decide) ?_
  refine z_topi (fun z1 ez => ?_)
  replace hf := bnd_s hf ez
  clear ez
  refine lv_istore_n (lv' := [(1, .int (Int32.ofInt z1)), (0, .ref a_p0)]) hx hb dX6_workOutStirs_1 rfl hl (by decide) rfl (fun ls hl => ?_)
  have hq := lq2_i hf
  clear hf
  obtain ⟨B4, eB4, NB4, hf⟩ := hq
  have hB4 : ∀ (n : Nat) (z2 : Int) (w3 : (Int → Int)) (ls : Array Slot) (H : Heap) (locs : List Loc), lv_has ls 3 [(1, .int (Int32.ofInt z2)), (0, .ref a_p0)] → va_P D vwCl [(a_p0, .inr (6, [.int (Int32.ofInt i_p0_seats), .int (Int32.ofInt i_p0_stirs), .ref a_p0_need, .ref a_p0_kind, .ref a_p0_first, .ref a_p0_second, .ref a_p0_after])), (a_p0_kind, .inl (G 1, 5, .inl (zA v_p0_kind))), (a_p0_first, .inl (G 1, 5, .inl (zA v_p0_first))), (a_p0_second, .inl (G 1, 5, .inl (zA v_p0_second))), (a_p0_after, .inl (G 1, 35, .inl (zA w3)))] H → va_D A [(a_p0, .inr (6, [.int (Int32.ofInt i_p0_seats), .int (Int32.ofInt i_p0_stirs), .ref a_p0_need, .ref a_p0_kind, .ref a_p0_first, .ref a_p0_second, .ref a_p0_after])), (a_p0_kind, .inl (G 1, 5, .inl (zA v_p0_kind))), (a_p0_first, .inl (G 1, 5, .inl (zA v_p0_first))), (a_p0_second, .inl (G 1, 5, .inl (zA v_p0_second))), (a_p0_after, .inl (G 1, 35, .inl (zA w3)))] → va_S A s.heap H locs → lq2 B4 n z2 w3 = some o_v_p0_after → W p l e rm_X6_workOutStirs s m ([.ref a_p0] : List Value).toArray below meth c H locs 0 0 Q (F0 m 2 ls []) := by
    clear hf hl hP hD hS
    intro n
    induction n with
    | zero =>
      intro z2 w3 ls H locs hl hP hD hS hf
      exact (lq2_0 hf).elim
    | succ n ih2 =>
      intro z2 w3 ls H locs hl hP hD hS hf
      replace hf := lq2_s eB4 hf
      unfold B_X6_workOutStirs_2 at hf
      refine lv_iload_n hx hb dX6_workOutStirs_2 rfl (lv_at hl 0 rfl) ?_
      refine lv_aload_n hx hb dX6_workOutStirs_3 rfl (lv_at hl 1 rfl) ?_
      refine va_get (D := D) (ci := 6) (v := .int (Int32.ofInt i_p0_stirs)) (C := RX6) (T := TX6) (N := 7) hx hb hts inX6_workOutStirs_X6 hown hK hP 0 rfl rfl 1 (by decide) (hts _ mwX6_workOutStirs_1) (fun _ h9 => h9) rfl dX6_workOutStirs_4 ?_
      have hr4 := ck_c hf
      replace hf := ck_r hf
      have hr5 := ck_c hf
      replace hf := ck_r hf
      refine lv_icmp_ge (tgt := 49) hx hb dX6_workOutStirs_7 (by decide) (fun cc => ?_) (fun cc => ?_)
      ·
        replace hf := ite_t ((z_le hr5 hr4).mp cc) hf
        clear cc
        obtain rfl := ou1 hf
        rw [hQ]
        exact W.vret hx hb hr (fun t ht hW => ⟨⟨(), rfl, trivial, by rw [ht]; exact hP, va_K.moved hW.alike hK, hD⟩, hS.F ht⟩) hS.2.2 dX6_workOutStirs_49
      ·
        replace hf := ite_f (fun h9 => cc ((z_le hr5 hr4).mpr h9)) hf
        clear cc
        refine lv_iconst (v := Int32.ofInt (0 : Int)) hx hb dX6_workOutStirs_10 (by decide) ?_
        refine z_topi (fun z7 ez => ?_)
        replace hf := bnd_s hf ez
        clear ez
        refine lv_istore_n (lv' := [(2, .int (Int32.ofInt z7)), (1, .int (Int32.ofInt z2)), (0, .ref a_p0)]) hx hb dX6_workOutStirs_11 rfl hl (by decide) rfl (fun ls hl => ?_)
        have hq := lq2_i hf
        clear hf
        obtain ⟨B10, eB10, NB10, hf⟩ := hq
        have hB10 : ∀ (n : Nat) (z8 : Int) (w9 : (Int → Int)) (ls : Array Slot) (H : Heap) (locs : List Loc), lv_has ls 3 [(2, .int (Int32.ofInt z8)), (1, .int (Int32.ofInt z2)), (0, .ref a_p0)] → va_P D vwCl [(a_p0, .inr (6, [.int (Int32.ofInt i_p0_seats), .int (Int32.ofInt i_p0_stirs), .ref a_p0_need, .ref a_p0_kind, .ref a_p0_first, .ref a_p0_second, .ref a_p0_after])), (a_p0_kind, .inl (G 1, 5, .inl (zA v_p0_kind))), (a_p0_first, .inl (G 1, 5, .inl (zA v_p0_first))), (a_p0_second, .inl (G 1, 5, .inl (zA v_p0_second))), (a_p0_after, .inl (G 1, 35, .inl (zA w9)))] H → va_D A [(a_p0, .inr (6, [.int (Int32.ofInt i_p0_seats), .int (Int32.ofInt i_p0_stirs), .ref a_p0_need, .ref a_p0_kind, .ref a_p0_first, .ref a_p0_second, .ref a_p0_after])), (a_p0_kind, .inl (G 1, 5, .inl (zA v_p0_kind))), (a_p0_first, .inl (G 1, 5, .inl (zA v_p0_first))), (a_p0_second, .inl (G 1, 5, .inl (zA v_p0_second))), (a_p0_after, .inl (G 1, 35, .inl (zA w9)))] → va_S A s.heap H locs → lq2 B10 n z8 w9 = some o_v_p0_after → W p l e rm_X6_workOutStirs s m ([.ref a_p0] : List Value).toArray below meth c H locs 0 0 Q (F0 m 12 ls []) := by
          clear hf hl hP hD hS
          intro n
          induction n with
          | zero =>
            intro z8 w9 ls H locs hl hP hD hS hf
            exact (lq2_0 hf).elim
          | succ n ih12 =>
            intro z8 w9 ls H locs hl hP hD hS hf
            replace hf := lq2_s eB10 hf
            unfold B_X6_workOutStirs_12 at hf
            refine lv_iload_n hx hb dX6_workOutStirs_12 rfl (lv_at hl 0 rfl) ?_
            refine lv_aload_n hx hb dX6_workOutStirs_13 rfl (lv_at hl 2 rfl) ?_
            refine va_get (D := D) (ci := 6) (v := .int (Int32.ofInt i_p0_seats)) (C := RX6) (T := TX6) (N := 7) hx hb hts inX6_workOutStirs_X6 hown hK hP 0 rfl rfl 0 (by decide) (hts _ mwX6_workOutStirs_2) (fun _ h9 => h9) rfl dX6_workOutStirs_14 ?_
            have hr10 := ck_c hf
            replace hf := ck_r hf
            have hr11 := ck_c hf
            replace hf := ck_r hf
            refine lv_icmp_ge (tgt := 43) hx hb dX6_workOutStirs_17 (by decide) (fun cc => ?_) (fun cc => ?_)
            ·
              replace hf := ite_t ((z_le hr11 hr10).mp cc) hf
              clear cc
              obtain ⟨z13, ez⟩ : ∃ y : Int, y = (z2 + (1 : Int)) := ⟨_, rfl⟩
              replace hf := bnd_s hf ez
              refine lv_iinc (v := Int32.ofInt z13) (lv' := [(1, .int (Int32.ofInt z13)), (2, .int (Int32.ofInt z8)), (0, .ref a_p0)]) hx hb dX6_workOutStirs_43 hl (k := 1) rfl (by rw [ez]; exact (Int32.ofInt_add _ _).symm) (by decide) rfl (fun ls hl => ?_)
              clear ez
              refine lv_goto (tgt := 2) hx hb dX6_workOutStirs_46 (by decide) ?_
              exact ih2 _ _ _ _ _ (lv_sub hl [0, 2] rfl) hP hD hS hf
            ·
              replace hf := ite_f (fun h9 => cc ((z_le hr11 hr10).mpr h9)) hf
              clear cc
              refine lv_aload_n hx hb dX6_workOutStirs_20 rfl (lv_at hl 2 rfl) ?_
              refine va_get (D := D) (ci := 6) (v := .ref a_p0_after) (C := RX6) (T := TX6) (N := 7) hx hb hts inX6_workOutStirs_X6 hown hK hP 0 rfl rfl 6 (by decide) (hts _ mwX6_workOutStirs_3) (fun _ h9 => h9) rfl dX6_workOutStirs_21 ?_
              refine lv_iload_n hx hb dX6_workOutStirs_24 rfl (lv_at hl 1 rfl) ?_
              refine lv_bipush (v := Int32.ofInt (7 : Int)) hx hb dX6_workOutStirs_25 (by decide) ?_
              refine lv_imul hx hb dX6_workOutStirs_27 (z_ci (Int32.ofInt_mul z2 (7 : Int)) ?_)
              refine lv_iload_n hx hb dX6_workOutStirs_28 rfl (lv_at hl 0 rfl) ?_
              refine lv_iadd hx hb dX6_workOutStirs_29 (z_ci (Int32.ofInt_add (z2 * (7 : Int)) z8) ?_)
              refine lv_aload_n hx hb dX6_workOutStirs_30 rfl (lv_at hl 2 rfl) ?_
              refine lv_iload_n hx hb dX6_workOutStirs_31 rfl (lv_at hl 1 rfl) ?_
              refine lv_iload_n hx hb dX6_workOutStirs_32 rfl (lv_at hl 0 rfl) ?_
              have hq := bd1_s hf
              clear hf
              obtain ⟨z14, hcall, hf⟩ := hq
              refine gnI (va_runV (As := [.int (Int32.ofInt z2), .int (Int32.ofInt z8)]) (rest := [.int (Int32.ofInt ((z2 * (7 : Int)) + z8)), .ref a_p0_after]) ⟨hx, hb, hml, hown, hts⟩ (c_X6_workOut (l := l) (D := D) (G := G) (sz := H.size) (a_p0 := a_p0) (a_p0_need := a_p0_need) (a_p0_kind := a_p0_kind) (a_p0_first := a_p0_first) (a_p0_second := a_p0_second) (a_p0_after := a_p0_after) (i_p0_seats := i_p0_seats) (i_p0_stirs := i_p0_stirs) (v_p0_kind := v_p0_kind) (v_p0_first := v_p0_first) (v_p0_second := v_p0_second) (x1 := z2) (x2 := z8) (r := z14) (hf := hcall)) (cwV 2 hts gX6_workOutStirs_X6_workOut rfl rfl rfl hdV_yX6_workOut_RX6 ⟨Nat.le_of_ble_eq_true rfl, Nat.le_of_ble_eq_true rfl⟩) (preG_V (ci := 6) (q := (RX6, TX6, 7)) (hP.sub [0, 1, 2, 3] rfl) (hD.sub [0, 1, 2, 3] rfl rfl) hK rfl rfl) rfl rfl hl.1 rfl (lv_room (Nat.le_of_ble_eq_true rfl)) dX6_workOutStirs_33 ⟨Nat.le_of_ble_eq_true rfl, Nat.le_of_ble_eq_true rfl⟩) hP hD hS hA [0, 1, 2, 3] rfl (fun H locs hP hD hS => ?_)
              clear hcall
              have hc := ck_c hf
              replace hf := ck_r hf
              refine zs_iast (wf := fun w15 => [(a_p0, .inr (6, [.int (Int32.ofInt i_p0_seats), .int (Int32.ofInt i_p0_stirs), .ref a_p0_need, .ref a_p0_kind, .ref a_p0_first, .ref a_p0_second, .ref a_p0_after])), (a_p0_kind, .inl (G 1, 5, .inl (zA v_p0_kind))), (a_p0_first, .inl (G 1, 5, .inl (zA v_p0_first))), (a_p0_second, .inl (G 1, 5, .inl (zA v_p0_second))), (a_p0_after, .inl (G 1, 35, .inl (zA w15)))]) hx hb hK hP hD hS 4 1 rfl rfl hc dX6_workOutStirs_36 (fun _ => rfl) (fun w15 ez H locs hP hD hS => ?_)
              replace hf := bnd_s hf ez
              clear ez hc
              obtain ⟨z16, ez⟩ : ∃ y : Int, y = (z8 + (1 : Int)) := ⟨_, rfl⟩
              replace hf := bnd_s hf ez
              refine lv_iinc (v := Int32.ofInt z16) (lv' := [(2, .int (Int32.ofInt z16)), (1, .int (Int32.ofInt z2)), (0, .ref a_p0)]) hx hb dX6_workOutStirs_37 hl (k := 0) rfl (by rw [ez]; exact (Int32.ofInt_add _ _).symm) (by decide) rfl (fun ls hl => ?_)
              clear ez
              refine lv_goto (tgt := 12) hx hb dX6_workOutStirs_40 (by decide) ?_
              exact ih12 _ _ _ _ _ (lv_sub hl [0, 1, 2] rfl) hP hD hS hf
        exact hB10 _ _ _ _ _ _ (lv_sub hl [0, 1, 2] rfl) hP hD hS hf
  exact hB4 _ _ _ _ _ _ (lv_sub hl [0, 1] rfl) hP hD hS hf

noncomputable def f_X7_isNothing (i_p0_lane : Int) : Option (Int) := (ck (z_r32 i_p0_lane) (if i_p0_lane = (-4 : Int) then (some (1 : Int)) else (some (0 : Int))))
abbrev rm_X7_isNothing : Room := { frames := 0, cells := 0, slots := 0, locals := 0 }
theorem inX7_isNothing_X7 : ∀ w ∈ wsX70, w ∈ wsX7_isNothing := by first | exact fun w h => List.mem_cons_of_mem _ (List.mem_append_right _ h) | decide +kernel
theorem mwX7_isNothing_1 : Cond.fieldLink RX7 9 "LadleKings$Sheet" "lane" "I" ∈ wsX7_isNothing := by first | exact List.mem_of_getElem? (i := 1) rfl | decide +kernel
set_option maxHeartbeats 8000000 in
set_option maxRecDepth 100000 in
theorem c_X7_isNothing (l : Launch) (D : va_G) (G : Nat → ClassId) (sz : Nat) (a_p0 : Nat) (a_p0_cells : Nat) (i_p0_lane : Int) (i_p0_size : Int) (r : Int) (hf : f_X7_isNothing i_p0_lane = some r) : Met l yX7_isNothing wsX7_isNothing rm_X7_isNothing (pcG D G [.ref a_p0] sz [(a_p0, .inr (7, [.int (Int32.ofInt i_p0_lane), .int (Int32.ofInt i_p0_size), .ref a_p0_cells]))]) (qcI D G (Int32.ofInt r) [(a_p0, .inr (7, [.int (Int32.ofInt i_p0_lane), .int (Int32.ofInt i_p0_size), .ref a_p0_cells]))] (va_A [(a_p0, .inr (7, [.int (Int32.ofInt i_p0_lane), .int (Int32.ofInt i_p0_size), .ref a_p0_cells]))] sz)) 0 0 (va_A [(a_p0, .inr (7, [.int (Int32.ofInt i_p0_lane), .int (Int32.ofInt i_p0_size), .ref a_p0_cells]))] sz) := by
  refine Met.ofW (cc := cX7_isNothing) (maxL := 1) (ret := (some .boolean)) (by decide) rfl ?_
  intro p e s m args below meth c s₁ B hml hv
  obtain ⟨rfl, hsz, hP, hK, hD0⟩ := hv
  have hx := B.exec
  have hb := B.bytes
  have hr := B.returns
  have hts := atoms_spec (ws := wsX7_isNothing) B.pre
  have hown : s.vm.findClass RX7 = some m.cls := findClass_of_methodNamed B.named
  have hlocks := B.notSynchronized
  subst hsz
  have hD := hD0.self (sz := s.heap.size)
  generalize hAe : va_A [(a_p0, .inr (7, [.int (Int32.ofInt i_p0_lane), .int (Int32.ofInt i_p0_size), .ref a_p0_cells]))] s.heap.size = A at hD ⊢
  have hA : ∀ q : Nat, s.heap.size ≤ q → A q := fun q h => by rw [← hAe]; exact Or.inr h
  clear hAe hD0
  have hS : va_S A s.heap s.heap [] := va_S.rf
  have hl := lv_entry ([.ref a_p0]) (n := 1) (Nat.le_of_ble_eq_true rfl)
  rw [lg_entry_eq]
  generalize (lg_sl ([.ref a_p0]) ++ List.replicate (1 - (lg_sl ([.ref a_p0])).length) Slot.unset).toArray = ls at hl ⊢
  have hl : lv_has ls 1 [(0, .ref a_p0)] := hl
  refine W_nameQ (fun Q hQ => ?_)
  obtain ⟨H, hH⟩ : ∃ H, H = s.heap := ⟨_, rfl⟩
  replace hS : va_S A s.heap H [] := by rw [hH]; exact hS
  replace hP : va_P D vwCl [(a_p0, .inr (7, [.int (Int32.ofInt i_p0_lane), .int (Int32.ofInt i_p0_size), .ref a_p0_cells]))] H := by rw [hH]; exact hP
  rw [← hH]
  clear hH
  unfold f_X7_isNothing at hf
  refine lv_aload_n hx hb dX7_isNothing_0 rfl (lv_at hl 0 rfl) ?_
  refine va_get (D := D) (ci := 7) (v := .int (Int32.ofInt i_p0_lane)) (C := RX7) (T := TX7) (N := 3) hx hb hts inX7_isNothing_X7 hown hK hP 0 rfl rfl 0 (by decide) (hts _ mwX7_isNothing_1) (fun _ h9 => h9) rfl dX7_isNothing_1 ?_
  refine lv_bipush (v := Int32.ofInt (-4 : Int)) hx hb dX7_isNothing_4 (by decide) ?_
  have hr0 := ck_c hf
  replace hf := ck_r hf
  refine lv_icmp_ne (tgt := 13) hx hb dX7_isNothing_6 (by decide) (fun cc => ?_) (fun cc => ?_)
  ·
    replace hf := ite_f (fun h9 => cc ((z_eq hr0 (by decide)).mpr h9)) hf
    clear cc
    refine lv_iconst (v := Int32.ofInt (0 : Int)) hx hb dX7_isNothing_13 (by decide) ?_
    obtain rfl := ou1 hf
    rw [hQ]
    exact W.zret hx hb hr rfl (fun t ht hW => ⟨⟨_, (), rfl, rfl, by rw [ht]; exact hP, va_K.moved hW.alike hK, hD⟩, hS.F ht⟩) hS.2.2 dX7_isNothing_14
  ·
    replace hf := ite_t ((z_eq hr0 (by decide)).mp cc) hf
    clear cc
    refine lv_iconst (v := Int32.ofInt (1 : Int)) hx hb dX7_isNothing_9 (by decide) ?_
    refine lv_goto (tgt := 14) hx hb dX7_isNothing_10 (by decide) ?_
    obtain rfl := ou1 hf
    rw [hQ]
    exact W.zret hx hb hr rfl (fun t ht hW => ⟨⟨_, (), rfl, rfl, by rw [ht]; exact hP, va_K.moved hW.alike hK, hD⟩, hS.F ht⟩) hS.2.2 dX7_isNothing_14

noncomputable def f_X7_renew (v_p0_cells : (Int → Int)) (x1 : Int) (x2 : Int) : Option (Int × Int × (Int → Int)) := (bnd x1 (fun (z1 : Int) => (bnd x2 (fun (z2 : Int) => (bd1 (f_J7_fill_53178 40 v_p0_cells (0 : Int)) (fun (w3 : (Int → Int)) => (some (z1, z2, w3))))))))
abbrev rm_X7_renew : Room := { frames := 1, cells := 0, slots := 0, locals := 23 }
theorem inX7_renew_X7 : ∀ w ∈ wsX70, w ∈ wsX7_renew := by first | exact fun w h => List.mem_cons_of_mem _ (List.mem_append_right _ h) | decide +kernel
theorem mwX7_renew_1 : Cond.fieldLink RX7 9 "LadleKings$Sheet" "lane" "I" ∈ wsX7_renew := by first | exact List.mem_of_getElem? (i := 1) rfl | decide +kernel
theorem mwX7_renew_2 : Cond.fieldLink RX7 15 "LadleKings$Sheet" "size" "I" ∈ wsX7_renew := by first | exact List.mem_of_getElem? (i := 2) rfl | decide +kernel
theorem mwX7_renew_3 : Cond.fieldLink RX7 18 "LadleKings$Sheet" "cells" "[I" ∈ wsX7_renew := by first | exact List.mem_of_getElem? (i := 3) rfl | decide +kernel
set_option maxHeartbeats 8000000 in
set_option maxRecDepth 100000 in
theorem c_X7_renew (l : Launch) (D : va_G) (G : Nat → ClassId) (sz : Nat) (a_p0 : Nat) (a_p0_cells : Nat) (i_p0_lane : Int) (i_p0_size : Int) (v_p0_cells : (Int → Int)) (x1 : Int) (x2 : Int) (o_i_p0_lane : Int) (o_i_p0_size : Int) (o_v_p0_cells : (Int → Int)) (hf : f_X7_renew v_p0_cells x1 x2 = some (o_i_p0_lane, o_i_p0_size, o_v_p0_cells)) : Met l yX7_renew wsX7_renew rm_X7_renew (pcG D G [.ref a_p0, .int (Int32.ofInt x1), .int (Int32.ofInt x2)] sz [(a_p0, .inr (7, [.int (Int32.ofInt i_p0_lane), .int (Int32.ofInt i_p0_size), .ref a_p0_cells])), (a_p0_cells, .inl (G 1, 40, .inl (zA v_p0_cells)))]) (qcV D G [(a_p0, .inr (7, [.int (Int32.ofInt o_i_p0_lane), .int (Int32.ofInt o_i_p0_size), .ref a_p0_cells])), (a_p0_cells, .inl (G 1, 40, .inl (zA o_v_p0_cells)))] (va_A [(a_p0, .inr (7, [.int (Int32.ofInt i_p0_lane), .int (Int32.ofInt i_p0_size), .ref a_p0_cells])), (a_p0_cells, .inl (G 1, 40, .inl (zA v_p0_cells)))] sz)) 0 0 (va_A [(a_p0, .inr (7, [.int (Int32.ofInt i_p0_lane), .int (Int32.ofInt i_p0_size), .ref a_p0_cells])), (a_p0_cells, .inl (G 1, 40, .inl (zA v_p0_cells)))] sz) := by
  refine Met.ofW (cc := cX7_renew) (maxL := 3) (ret := none) (by decide) rfl ?_
  intro p e s m args below meth c s₁ B hml hv
  obtain ⟨rfl, hsz, hP, hK, hD0⟩ := hv
  have hx := B.exec
  have hb := B.bytes
  have hr := B.returns
  have hts := atoms_spec (ws := wsX7_renew) B.pre
  have hown : s.vm.findClass RX7 = some m.cls := findClass_of_methodNamed B.named
  have hlocks := B.notSynchronized
  subst hsz
  have hD := hD0.self (sz := s.heap.size)
  generalize hAe : va_A [(a_p0, .inr (7, [.int (Int32.ofInt i_p0_lane), .int (Int32.ofInt i_p0_size), .ref a_p0_cells])), (a_p0_cells, .inl (G 1, 40, .inl (zA v_p0_cells)))] s.heap.size = A at hD ⊢
  have hA : ∀ q : Nat, s.heap.size ≤ q → A q := fun q h => by rw [← hAe]; exact Or.inr h
  clear hAe hD0
  have hS : va_S A s.heap s.heap [] := va_S.rf
  have hl := lv_entry ([.ref a_p0, .int (Int32.ofInt x1), .int (Int32.ofInt x2)]) (n := 3) (Nat.le_of_ble_eq_true rfl)
  rw [lg_entry_eq]
  generalize (lg_sl ([.ref a_p0, .int (Int32.ofInt x1), .int (Int32.ofInt x2)]) ++ List.replicate (3 - (lg_sl ([.ref a_p0, .int (Int32.ofInt x1), .int (Int32.ofInt x2)])).length) Slot.unset).toArray = ls at hl ⊢
  have hl : lv_has ls 3 [(0, .ref a_p0), (1, .int (Int32.ofInt x1)), (2, .int (Int32.ofInt x2))] := hl
  refine W_nameQ (fun Q hQ => ?_)
  obtain ⟨H, hH⟩ : ∃ H, H = s.heap := ⟨_, rfl⟩
  replace hS : va_S A s.heap H [] := by rw [hH]; exact hS
  replace hP : va_P D vwCl [(a_p0, .inr (7, [.int (Int32.ofInt i_p0_lane), .int (Int32.ofInt i_p0_size), .ref a_p0_cells])), (a_p0_cells, .inl (G 1, 40, .inl (zA v_p0_cells)))] H := by rw [hH]; exact hP
  rw [← hH]
  clear hH
  unfold f_X7_renew at hf
  refine lv_aload_n hx hb dX7_renew_0 rfl (lv_at hl 0 rfl) ?_
  refine lv_iload_n hx hb dX7_renew_1 rfl (lv_at hl 1 rfl) ?_
  refine z_topi (fun z1 ez => ?_)
  replace hf := bnd_s hf ez
  clear ez
  refine va_put (D := D) (ci := 7) (v := .int (Int32.ofInt z1)) (ty := .int) (C := RX7) (T := TX7) (N := 3) hx hb hts inX7_renew_X7 tyX7 tyX7_ok nmX7 hown hK hP hD hS 0 rfl rfl 0 (by decide) (hts _ mwX7_renew_1) (fun _ h9 => h9) rfl (by decide +kernel) rfl rfl (Nat.le_of_ble_eq_true rfl) dX7_renew_2 (fun H locs hP hD hS => ?_)
  have hP : va_P D vwCl [(a_p0, .inr (7, [.int (Int32.ofInt z1), .int (Int32.ofInt i_p0_size), .ref a_p0_cells])), (a_p0_cells, .inl (G 1, 40, .inl (zA v_p0_cells)))] H := hP
  have hD : va_D A [(a_p0, .inr (7, [.int (Int32.ofInt z1), .int (Int32.ofInt i_p0_size), .ref a_p0_cells])), (a_p0_cells, .inl (G 1, 40, .inl (zA v_p0_cells)))] := hD
  refine lv_aload_n hx hb dX7_renew_5 rfl (lv_at hl 0 rfl) ?_
  refine lv_iload_n hx hb dX7_renew_6 rfl (lv_at hl 2 rfl) ?_
  refine z_topi (fun z2 ez => ?_)
  replace hf := bnd_s hf ez
  clear ez
  refine va_put (D := D) (ci := 7) (v := .int (Int32.ofInt z2)) (ty := .int) (C := RX7) (T := TX7) (N := 3) hx hb hts inX7_renew_X7 tyX7 tyX7_ok nmX7 hown hK hP hD hS 0 rfl rfl 1 (by decide) (hts _ mwX7_renew_2) (fun _ h9 => h9) rfl (by decide +kernel) rfl rfl (Nat.le_of_ble_eq_true rfl) dX7_renew_7 (fun H locs hP hD hS => ?_)
  have hP : va_P D vwCl [(a_p0, .inr (7, [.int (Int32.ofInt z1), .int (Int32.ofInt z2), .ref a_p0_cells])), (a_p0_cells, .inl (G 1, 40, .inl (zA v_p0_cells)))] H := hP
  have hD : va_D A [(a_p0, .inr (7, [.int (Int32.ofInt z1), .int (Int32.ofInt z2), .ref a_p0_cells])), (a_p0_cells, .inl (G 1, 40, .inl (zA v_p0_cells)))] := hD
  refine lv_aload_n hx hb dX7_renew_10 rfl (lv_at hl 0 rfl) ?_
  refine va_get (D := D) (ci := 7) (v := .ref a_p0_cells) (C := RX7) (T := TX7) (N := 3) hx hb hts inX7_renew_X7 hown hK hP 0 rfl rfl 2 (by decide) (hts _ mwX7_renew_3) (fun _ h9 => h9) rfl dX7_renew_11 ?_
  refine lv_iconst (v := Int32.ofInt (0 : Int)) hx hb dX7_renew_14 (by decide) ?_
  have hq := bd1_s hf
  clear hf
  obtain ⟨w3, hcall, hf⟩ := hq
  refine gsV (ws' := [(a_p0, .inr (7, [.int (Int32.ofInt z1), .int (Int32.ofInt z2), .ref a_p0_cells])), (a_p0_cells, .inl (G 1, 40, .inl (zA w3)))]) (va_runS (As := [.ref a_p0_cells, .int (Int32.ofInt (0 : Int))]) (rest := []) ⟨hx, hb, hml, hown, hts⟩ (c_J7_fill_53178 (l := l) (D := D) (G := G) (sz := H.size) (a_p0 := a_p0_cells) (n_p0 := 40) (v_p0 := v_p0_cells) (x1 := (0 : Int)) (o_v_p0 := w3) (hf := hcall)) (va_cwS 2 hts gX7_renew_J7_fill_53178 rfl rfl rfl (by decide +kernel) ⟨Nat.le_of_ble_eq_true rfl, Nat.le_of_ble_eq_true rfl⟩) (preG_S (hP.sub [1] rfl) (hD.sub [1] rfl rfl) hK) rfl rfl hl.1 rfl (lv_room (Nat.le_of_ble_eq_true rfl)) dX7_renew_15 ⟨Nat.le_of_ble_eq_true rfl, Nat.le_of_ble_eq_true rfl⟩) hP hD hS hA [1] rfl rfl rfl (fun H locs hP hD hS => ?_)
  clear hcall
  obtain ⟨rfl, rfl, rfl⟩ := ou3 hf
  rw [hQ]
  exact W.vret hx hb hr (fun t ht hW => ⟨⟨(), rfl, trivial, by rw [ht]; exact hP, va_K.moved hW.alike hK, hD⟩, hS.F ht⟩) hS.2.2 dX7_renew_18

noncomputable def f_X7_faultAt (i_p0_lane : Int) (i_p0_size : Int) (x1 : Int) (x2 : Int) : Option (Int) := (bd1 (f_X7_isNothing i_p0_lane) (fun (z1 : Int) => (ck (z_r32 z1) (if z1 = (0 : Int) then (ck (z_r32 x1) (ck (z_r32 i_p0_lane) (if x1 = i_p0_lane then (ck (z_r32 x2) (if x2 < (0 : Int) then (some (2 : Int)) else (ck (z_r32 i_p0_size) (if x2 < i_p0_size then (some (0 : Int)) else (some (2 : Int)))))) else (some (3 : Int))))) else (some (1 : Int))))))
abbrev rm_X7_faultAt : Room := { frames := 1, cells := 0, slots := 0, locals := 20 }
theorem hdV_yX7_isNothing_RX7 : yX7_isNothing.cls = RX7 ∧ yX7_isNothing.cls ≠ "java/lang/invoke/MethodHandle" ∧ yX7_isNothing.cls ≠ "java/lang/invoke/VarHandle" ∧ (parseMethodDescriptor yX7_isNothing.desc).map (fun d => d.parameters.length) = some 0 := by decide +kernel
theorem inX7_faultAt_X7 : ∀ w ∈ wsX70, w ∈ wsX7_faultAt := by first | exact fun w h => List.mem_cons_of_mem _ (List.mem_append_right _ h) | decide +kernel
theorem mwX7_faultAt_2 : Cond.fieldLink RX7 9 "LadleKings$Sheet" "lane" "I" ∈ wsX7_faultAt := by first | exact List.mem_of_getElem? (i := 1) rfl | decide +kernel
theorem mwX7_faultAt_3 : Cond.fieldLink RX7 15 "LadleKings$Sheet" "size" "I" ∈ wsX7_faultAt := by first | exact List.mem_of_getElem? (i := 2) rfl | decide +kernel
set_option maxHeartbeats 8000000 in
set_option maxRecDepth 100000 in
theorem c_X7_faultAt (l : Launch) (D : va_G) (G : Nat → ClassId) (sz : Nat) (a_p0 : Nat) (a_p0_cells : Nat) (i_p0_lane : Int) (i_p0_size : Int) (x1 : Int) (x2 : Int) (r : Int) (hf : f_X7_faultAt i_p0_lane i_p0_size x1 x2 = some r) : Met l yX7_faultAt wsX7_faultAt rm_X7_faultAt (pcG D G [.ref a_p0, .int (Int32.ofInt x1), .int (Int32.ofInt x2)] sz [(a_p0, .inr (7, [.int (Int32.ofInt i_p0_lane), .int (Int32.ofInt i_p0_size), .ref a_p0_cells]))]) (qcI D G (Int32.ofInt r) [(a_p0, .inr (7, [.int (Int32.ofInt i_p0_lane), .int (Int32.ofInt i_p0_size), .ref a_p0_cells]))] (va_A [(a_p0, .inr (7, [.int (Int32.ofInt i_p0_lane), .int (Int32.ofInt i_p0_size), .ref a_p0_cells]))] sz)) 0 0 (va_A [(a_p0, .inr (7, [.int (Int32.ofInt i_p0_lane), .int (Int32.ofInt i_p0_size), .ref a_p0_cells]))] sz) := by
  refine Met.ofW (cc := cX7_faultAt) (maxL := 3) (ret := (some .int)) (by decide) rfl ?_
  intro p e s m args below meth c s₁ B hml hv
  obtain ⟨rfl, hsz, hP, hK, hD0⟩ := hv
  have hx := B.exec
  have hb := B.bytes
  have hr := B.returns
  have hts := atoms_spec (ws := wsX7_faultAt) B.pre
  have hown : s.vm.findClass RX7 = some m.cls := findClass_of_methodNamed B.named
  have hlocks := B.notSynchronized
  subst hsz
  have hD := hD0.self (sz := s.heap.size)
  generalize hAe : va_A [(a_p0, .inr (7, [.int (Int32.ofInt i_p0_lane), .int (Int32.ofInt i_p0_size), .ref a_p0_cells]))] s.heap.size = A at hD ⊢
  have hA : ∀ q : Nat, s.heap.size ≤ q → A q := fun q h => by rw [← hAe]; exact Or.inr h
  clear hAe hD0
  have hS : va_S A s.heap s.heap [] := va_S.rf
  have hl := lv_entry ([.ref a_p0, .int (Int32.ofInt x1), .int (Int32.ofInt x2)]) (n := 3) (Nat.le_of_ble_eq_true rfl)
  rw [lg_entry_eq]
  generalize (lg_sl ([.ref a_p0, .int (Int32.ofInt x1), .int (Int32.ofInt x2)]) ++ List.replicate (3 - (lg_sl ([.ref a_p0, .int (Int32.ofInt x1), .int (Int32.ofInt x2)])).length) Slot.unset).toArray = ls at hl ⊢
  have hl : lv_has ls 3 [(0, .ref a_p0), (1, .int (Int32.ofInt x1)), (2, .int (Int32.ofInt x2))] := hl
  refine W_nameQ (fun Q hQ => ?_)
  obtain ⟨H, hH⟩ : ∃ H, H = s.heap := ⟨_, rfl⟩
  replace hS : va_S A s.heap H [] := by rw [hH]; exact hS
  replace hP : va_P D vwCl [(a_p0, .inr (7, [.int (Int32.ofInt i_p0_lane), .int (Int32.ofInt i_p0_size), .ref a_p0_cells]))] H := by rw [hH]; exact hP
  rw [← hH]
  clear hH
  unfold f_X7_faultAt at hf
  refine lv_aload_n hx hb dX7_faultAt_0 rfl (lv_at hl 0 rfl) ?_
  have hq := bd1_s hf
  clear hf
  obtain ⟨z1, hcall, hf⟩ := hq
  refine gnI (va_runV (As := []) (rest := []) ⟨hx, hb, hml, hown, hts⟩ (c_X7_isNothing (l := l) (D := D) (G := G) (sz := H.size) (a_p0 := a_p0) (a_p0_cells := a_p0_cells) (i_p0_lane := i_p0_lane) (i_p0_size := i_p0_size) (r := z1) (hf := hcall)) (cwV 0 hts gX7_faultAt_X7_isNothing rfl rfl rfl hdV_yX7_isNothing_RX7 ⟨Nat.le_of_ble_eq_true rfl, Nat.le_of_ble_eq_true rfl⟩) (preG_V (ci := 7) (q := (RX7, TX7, 3)) (hP.sub [0] rfl) (hD.sub [0] rfl rfl) hK rfl rfl) rfl rfl hl.1 rfl (lv_room (Nat.le_of_ble_eq_true rfl)) dX7_faultAt_1 ⟨Nat.le_of_ble_eq_true rfl, Nat.le_of_ble_eq_true rfl⟩) hP hD hS hA [0] rfl (fun H locs hP hD hS => ?_)
  clear hcall
  have hr1 := ck_c hf
  replace hf := ck_r hf
  refine lv_if_eq (tgt := 9) hx hb dX7_faultAt_4 (by decide) (fun cc => ?_) (fun cc => ?_)
  ·
    replace hf := ite_t ((z_eq0 hr1).mp cc) hf
    clear cc
    refine lv_iload_n hx hb dX7_faultAt_9 rfl (lv_at hl 1 rfl) ?_
    refine lv_aload_n hx hb dX7_faultAt_10 rfl (lv_at hl 0 rfl) ?_
    refine va_get (D := D) (ci := 7) (v := .int (Int32.ofInt i_p0_lane)) (C := RX7) (T := TX7) (N := 3) hx hb hts inX7_faultAt_X7 hown hK hP 0 rfl rfl 0 (by decide) (hts _ mwX7_faultAt_2) (fun _ h9 => h9) rfl dX7_faultAt_11 ?_
    have hr2 := ck_c hf
    replace hf := ck_r hf
    have hr3 := ck_c hf
    replace hf := ck_r hf
    refine lv_icmp_eq (tgt := 19) hx hb dX7_faultAt_14 (by decide) (fun cc => ?_) (fun cc => ?_)
    ·
      replace hf := ite_t ((z_eq hr2 hr3).mp cc) hf
      clear cc
      refine lv_iload_n hx hb dX7_faultAt_19 rfl (lv_at hl 2 rfl) ?_
      have hr4 := ck_c hf
      replace hf := ck_r hf
      refine lv_if_lt (tgt := 31) hx hb dX7_faultAt_20 (by decide) (fun cc => ?_) (fun cc => ?_)
      ·
        replace hf := ite_t ((z_lt0 hr4).mp cc) hf
        clear cc
        refine lv_iconst (v := Int32.ofInt (2 : Int)) hx hb dX7_faultAt_31 (by decide) ?_
        refine lv_goto (tgt := 36) hx hb dX7_faultAt_32 (by decide) ?_
        obtain rfl := ou1 hf
        rw [hQ]
        exact W.iret hx hb hr (fun t ht hW => ⟨⟨_, (), rfl, rfl, by rw [ht]; exact hP, va_K.moved hW.alike hK, hD⟩, hS.F ht⟩) hS.2.2 dX7_faultAt_36
      ·
        replace hf := ite_f (fun h9 => cc ((z_lt0 hr4).mpr h9)) hf
        clear cc
        refine lv_iload_n hx hb dX7_faultAt_23 rfl (lv_at hl 2 rfl) ?_
        refine lv_aload_n hx hb dX7_faultAt_24 rfl (lv_at hl 0 rfl) ?_
        refine va_get (D := D) (ci := 7) (v := .int (Int32.ofInt i_p0_size)) (C := RX7) (T := TX7) (N := 3) hx hb hts inX7_faultAt_X7 hown hK hP 0 rfl rfl 1 (by decide) (hts _ mwX7_faultAt_3) (fun _ h9 => h9) rfl dX7_faultAt_25 ?_
        have hr5 := ck_c hf
        replace hf := ck_r hf
        refine lv_icmp_lt (tgt := 35) hx hb dX7_faultAt_28 (by decide) (fun cc => ?_) (fun cc => ?_)
        ·
          replace hf := ite_t ((z_lt hr4 hr5).mp cc) hf
          clear cc
          refine lv_iconst (v := Int32.ofInt (0 : Int)) hx hb dX7_faultAt_35 (by decide) ?_
          obtain rfl := ou1 hf
          rw [hQ]
          exact W.iret hx hb hr (fun t ht hW => ⟨⟨_, (), rfl, rfl, by rw [ht]; exact hP, va_K.moved hW.alike hK, hD⟩, hS.F ht⟩) hS.2.2 dX7_faultAt_36
        ·
          replace hf := ite_f (fun h9 => cc ((z_lt hr4 hr5).mpr h9)) hf
          clear cc
          refine lv_iconst (v := Int32.ofInt (2 : Int)) hx hb dX7_faultAt_31 (by decide) ?_
          refine lv_goto (tgt := 36) hx hb dX7_faultAt_32 (by decide) ?_
          obtain rfl := ou1 hf
          rw [hQ]
          exact W.iret hx hb hr (fun t ht hW => ⟨⟨_, (), rfl, rfl, by rw [ht]; exact hP, va_K.moved hW.alike hK, hD⟩, hS.F ht⟩) hS.2.2 dX7_faultAt_36
    ·
      replace hf := ite_f (fun h9 => cc ((z_eq hr2 hr3).mpr h9)) hf
      clear cc
      refine lv_iconst (v := Int32.ofInt (3 : Int)) hx hb dX7_faultAt_17 (by decide) ?_
      obtain rfl := ou1 hf
      rw [hQ]
      exact W.iret hx hb hr (fun t ht hW => ⟨⟨_, (), rfl, rfl, by rw [ht]; exact hP, va_K.moved hW.alike hK, hD⟩, hS.F ht⟩) hS.2.2 dX7_faultAt_18
  ·
    replace hf := ite_f (fun h9 => cc ((z_eq0 hr1).mpr h9)) hf
    clear cc
    refine lv_iconst (v := Int32.ofInt (1 : Int)) hx hb dX7_faultAt_7 (by decide) ?_
    obtain rfl := ou1 hf
    rw [hQ]
    exact W.iret hx hb hr (fun t ht hW => ⟨⟨_, (), rfl, rfl, by rw [ht]; exact hP, va_K.moved hW.alike hK, hD⟩, hS.F ht⟩) hS.2.2 dX7_faultAt_8

noncomputable def f_X7_put (i_p0_lane : Int) (v_p0_cells : (Int → Int)) (x1 : Int) (x2 : Int) : Option ((Int → Int)) := (ck (z_r32 i_p0_lane) (if i_p0_lane = (0 : Int) then (ck (z_ix x1 40) (bnd (z_up v_p0_cells x1 (z_i2b x2)) (fun (w3 : (Int → Int)) => (some w3)))) else (if i_p0_lane = (1 : Int) then (ck (z_ix x1 40) (bnd (z_up v_p0_cells x1 (z_i2s x2)) (fun (w5 : (Int → Int)) => (some w5)))) else (ck (z_ix x1 40) (bnd (z_up v_p0_cells x1 x2) (fun (w6 : (Int → Int)) => (some w6)))))))
abbrev rm_X7_put : Room := { frames := 0, cells := 0, slots := 0, locals := 0 }
theorem inX7_put_X7 : ∀ w ∈ wsX70, w ∈ wsX7_put := by first | exact fun w h => List.mem_cons_of_mem _ (List.mem_append_right _ h) | decide +kernel
theorem mwX7_put_1 : Cond.fieldLink RX7 9 "LadleKings$Sheet" "lane" "I" ∈ wsX7_put := by first | exact List.mem_of_getElem? (i := 1) rfl | decide +kernel
theorem mwX7_put_2 : Cond.fieldLink RX7 18 "LadleKings$Sheet" "cells" "[I" ∈ wsX7_put := by first | exact List.mem_of_getElem? (i := 2) rfl | decide +kernel
set_option maxHeartbeats 8000000 in
set_option maxRecDepth 100000 in
theorem c_X7_put (l : Launch) (D : va_G) (G : Nat → ClassId) (sz : Nat) (a_p0 : Nat) (a_p0_cells : Nat) (i_p0_lane : Int) (i_p0_size : Int) (v_p0_cells : (Int → Int)) (x1 : Int) (x2 : Int) (o_v_p0_cells : (Int → Int)) (hf : f_X7_put i_p0_lane v_p0_cells x1 x2 = some o_v_p0_cells) : Met l yX7_put wsX7_put rm_X7_put (pcG D G [.ref a_p0, .int (Int32.ofInt x1), .int (Int32.ofInt x2)] sz [(a_p0, .inr (7, [.int (Int32.ofInt i_p0_lane), .int (Int32.ofInt i_p0_size), .ref a_p0_cells])), (a_p0_cells, .inl (G 1, 40, .inl (zA v_p0_cells)))]) (qcV D G [(a_p0, .inr (7, [.int (Int32.ofInt i_p0_lane), .int (Int32.ofInt i_p0_size), .ref a_p0_cells])), (a_p0_cells, .inl (G 1, 40, .inl (zA o_v_p0_cells)))] (va_A [(a_p0, .inr (7, [.int (Int32.ofInt i_p0_lane), .int (Int32.ofInt i_p0_size), .ref a_p0_cells])), (a_p0_cells, .inl (G 1, 40, .inl (zA v_p0_cells)))] sz)) 0 0 (va_A [(a_p0, .inr (7, [.int (Int32.ofInt i_p0_lane), .int (Int32.ofInt i_p0_size), .ref a_p0_cells])), (a_p0_cells, .inl (G 1, 40, .inl (zA v_p0_cells)))] sz) := by
  refine Met.ofW (cc := cX7_put) (maxL := 3) (ret := none) (by decide) rfl ?_
  intro p e s m args below meth c s₁ B hml hv
  obtain ⟨rfl, hsz, hP, hK, hD0⟩ := hv
  have hx := B.exec
  have hb := B.bytes
  have hr := B.returns
  have hts := atoms_spec (ws := wsX7_put) B.pre
  have hown : s.vm.findClass RX7 = some m.cls := findClass_of_methodNamed B.named
  have hlocks := B.notSynchronized
  subst hsz
  have hD := hD0.self (sz := s.heap.size)
  generalize hAe : va_A [(a_p0, .inr (7, [.int (Int32.ofInt i_p0_lane), .int (Int32.ofInt i_p0_size), .ref a_p0_cells])), (a_p0_cells, .inl (G 1, 40, .inl (zA v_p0_cells)))] s.heap.size = A at hD ⊢
  have hA : ∀ q : Nat, s.heap.size ≤ q → A q := fun q h => by rw [← hAe]; exact Or.inr h
  clear hAe hD0
  have hS : va_S A s.heap s.heap [] := va_S.rf
  have hl := lv_entry ([.ref a_p0, .int (Int32.ofInt x1), .int (Int32.ofInt x2)]) (n := 3) (Nat.le_of_ble_eq_true rfl)
  rw [lg_entry_eq]
  generalize (lg_sl ([.ref a_p0, .int (Int32.ofInt x1), .int (Int32.ofInt x2)]) ++ List.replicate (3 - (lg_sl ([.ref a_p0, .int (Int32.ofInt x1), .int (Int32.ofInt x2)])).length) Slot.unset).toArray = ls at hl ⊢
  have hl : lv_has ls 3 [(0, .ref a_p0), (1, .int (Int32.ofInt x1)), (2, .int (Int32.ofInt x2))] := hl
  refine W_nameQ (fun Q hQ => ?_)
  obtain ⟨H, hH⟩ : ∃ H, H = s.heap := ⟨_, rfl⟩
  replace hS : va_S A s.heap H [] := by rw [hH]; exact hS
  replace hP : va_P D vwCl [(a_p0, .inr (7, [.int (Int32.ofInt i_p0_lane), .int (Int32.ofInt i_p0_size), .ref a_p0_cells])), (a_p0_cells, .inl (G 1, 40, .inl (zA v_p0_cells)))] H := by rw [hH]; exact hP
  rw [← hH]
  clear hH
  unfold f_X7_put at hf
  refine lv_aload_n hx hb dX7_put_0 rfl (lv_at hl 0 rfl) ?_
  refine va_get (D := D) (ci := 7) (v := .int (Int32.ofInt i_p0_lane)) (C := RX7) (T := TX7) (N := 3) hx hb hts inX7_put_X7 hown hK hP 0 rfl rfl 0 (by decide) (hts _ mwX7_put_1) (fun _ h9 => h9) rfl dX7_put_1 ?_
  have hr0 := ck_c hf
  replace hf := ck_r hf
  rcases Decidable.em (i_p0_lane = (0 : Int)) with hk2 | hk2
  ·
    replace hf := ite_t hk2 hf
    refine lv_lookup (tgt := 32) (off := 28) hx hb dX7_put_4 (by decide) (by rw [hk2]; decide) (by decide) ?_
    clear hk2
    refine lv_aload_n hx hb dX7_put_32 rfl (lv_at hl 0 rfl) ?_
    refine va_get (D := D) (ci := 7) (v := .ref a_p0_cells) (C := RX7) (T := TX7) (N := 3) hx hb hts inX7_put_X7 hown hK hP 0 rfl rfl 2 (by decide) (hts _ mwX7_put_2) (fun _ h9 => h9) rfl dX7_put_33 ?_
    refine lv_iload_n hx hb dX7_put_36 rfl (lv_at hl 1 rfl) ?_
    refine lv_iload_n hx hb dX7_put_37 rfl (lv_at hl 2 rfl) ?_
    refine lv_i2b (v := Int32.ofInt (z_i2b x2)) hx hb dX7_put_38 (z_i2b_e x2).symm ?_
    have hc := ck_c hf
    replace hf := ck_r hf
    refine zs_iast (wf := fun w3 => [(a_p0, .inr (7, [.int (Int32.ofInt i_p0_lane), .int (Int32.ofInt i_p0_size), .ref a_p0_cells])), (a_p0_cells, .inl (G 1, 40, .inl (zA w3)))]) hx hb hK hP hD hS 1 1 rfl rfl hc dX7_put_39 (fun _ => rfl) (fun w3 ez H locs hP hD hS => ?_)
    replace hf := bnd_s hf ez
    clear ez hc
    refine lv_goto (tgt := 61) hx hb dX7_put_40 (by decide) ?_
    obtain rfl := ou1 hf
    rw [hQ]
    exact W.vret hx hb hr (fun t ht hW => ⟨⟨(), rfl, trivial, by rw [ht]; exact hP, va_K.moved hW.alike hK, hD⟩, hS.F ht⟩) hS.2.2 dX7_put_61
  replace hf := ite_f hk2 hf
  rcases Decidable.em (i_p0_lane = (1 : Int)) with hk4 | hk4
  ·
    replace hf := ite_t hk4 hf
    refine lv_lookup (tgt := 43) (off := 39) hx hb dX7_put_4 (by decide) (by rw [hk4]; decide) (by decide) ?_
    clear hk4 hk2
    refine lv_aload_n hx hb dX7_put_43 rfl (lv_at hl 0 rfl) ?_
    refine va_get (D := D) (ci := 7) (v := .ref a_p0_cells) (C := RX7) (T := TX7) (N := 3) hx hb hts inX7_put_X7 hown hK hP 0 rfl rfl 2 (by decide) (hts _ mwX7_put_2) (fun _ h9 => h9) rfl dX7_put_44 ?_
    refine lv_iload_n hx hb dX7_put_47 rfl (lv_at hl 1 rfl) ?_
    refine lv_iload_n hx hb dX7_put_48 rfl (lv_at hl 2 rfl) ?_
    refine lv_i2s (v := Int32.ofInt (z_i2s x2)) hx hb dX7_put_49 (z_i2s_e x2).symm ?_
    have hc := ck_c hf
    replace hf := ck_r hf
    refine zs_iast (wf := fun w5 => [(a_p0, .inr (7, [.int (Int32.ofInt i_p0_lane), .int (Int32.ofInt i_p0_size), .ref a_p0_cells])), (a_p0_cells, .inl (G 1, 40, .inl (zA w5)))]) hx hb hK hP hD hS 1 1 rfl rfl hc dX7_put_50 (fun _ => rfl) (fun w5 ez H locs hP hD hS => ?_)
    replace hf := bnd_s hf ez
    clear ez hc
    refine lv_goto (tgt := 61) hx hb dX7_put_51 (by decide) ?_
    obtain rfl := ou1 hf
    rw [hQ]
    exact W.vret hx hb hr (fun t ht hW => ⟨⟨(), rfl, trivial, by rw [ht]; exact hP, va_K.moved hW.alike hK, hD⟩, hS.F ht⟩) hS.2.2 dX7_put_61
  replace hf := ite_f hk4 hf
  refine lv_lookup (tgt := 54) (off := 50) hx hb dX7_put_4 (by decide) (by rw [z_ti hr0]; exact z_look2 hk2 hk4) (by decide) ?_
  clear hk2 hk4
  refine lv_aload_n hx hb dX7_put_54 rfl (lv_at hl 0 rfl) ?_
  refine va_get (D := D) (ci := 7) (v := .ref a_p0_cells) (C := RX7) (T := TX7) (N := 3) hx hb hts inX7_put_X7 hown hK hP 0 rfl rfl 2 (by decide) (hts _ mwX7_put_2) (fun _ h9 => h9) rfl dX7_put_55 ?_
  refine lv_iload_n hx hb dX7_put_58 rfl (lv_at hl 1 rfl) ?_
  refine lv_iload_n hx hb dX7_put_59 rfl (lv_at hl 2 rfl) ?_
  have hc := ck_c hf
  replace hf := ck_r hf
  refine zs_iast (wf := fun w6 => [(a_p0, .inr (7, [.int (Int32.ofInt i_p0_lane), .int (Int32.ofInt i_p0_size), .ref a_p0_cells])), (a_p0_cells, .inl (G 1, 40, .inl (zA w6)))]) hx hb hK hP hD hS 1 1 rfl rfl hc dX7_put_60 (fun _ => rfl) (fun w6 ez H locs hP hD hS => ?_)
  replace hf := bnd_s hf ez
  clear ez hc
  obtain rfl := ou1 hf
  rw [hQ]
  exact W.vret hx hb hr (fun t ht hW => ⟨⟨(), rfl, trivial, by rw [ht]; exact hP, va_K.moved hW.alike hK, hD⟩, hS.F ht⟩) hS.2.2 dX7_put_61

noncomputable def f_X8_reset (v_p0_pieces : (Int → Int)) (v_p0_friends : (Int → Int)) (v_p0_spoons : (Int → Int)) (v_p0_eaten : (Int → Int)) : Option (Int × Int × Int × Int × (Int → Int) × (Int → Int) × (Int → Int) × (Int → Int)) := (bd1 (f_J7_fill_53178 7 v_p0_pieces (0 : Int)) (fun (w1 : (Int → Int)) => (bd1 (f_J7_fill_53178 7 v_p0_friends (0 : Int)) (fun (w2 : (Int → Int)) => (bd1 (f_J7_fill_53178 7 v_p0_spoons (1 : Int)) (fun (w3 : (Int → Int)) => (bd1 (f_J7_fill_53178 7 v_p0_eaten (0 : Int)) (fun (w4 : (Int → Int)) => (bnd (0 : Int) (fun (z5 : Int) => (bnd (0 : Int) (fun (z6 : Int) => (bnd (0 : Int) (fun (z7 : Int) => (bnd (0 : Int) (fun (z8 : Int) => (some (z5, z6, z7, z8, w1, w2, w3, w4))))))))))))))))))
abbrev rm_X8_reset : Room := { frames := 1, cells := 0, slots := 0, locals := 23 }
theorem inX8_reset_X8 : ∀ w ∈ wsX80, w ∈ wsX8_reset := by first | exact fun w h => List.mem_cons_of_mem _ (List.mem_append_right _ h) | decide +kernel
theorem mwX8_reset_1 : Cond.fieldLink RX8 9 "LadleKings$State" "pieces" "[I" ∈ wsX8_reset := by first | exact List.mem_of_getElem? (i := 1) rfl | decide +kernel
theorem mwX8_reset_2 : Cond.fieldLink RX8 15 "LadleKings$State" "friends" "[I" ∈ wsX8_reset := by first | exact List.mem_of_getElem? (i := 2) rfl | decide +kernel
theorem mwX8_reset_3 : Cond.fieldLink RX8 18 "LadleKings$State" "spoons" "[I" ∈ wsX8_reset := by first | exact List.mem_of_getElem? (i := 3) rfl | decide +kernel
theorem mwX8_reset_4 : Cond.fieldLink RX8 21 "LadleKings$State" "eaten" "[I" ∈ wsX8_reset := by first | exact List.mem_of_getElem? (i := 4) rfl | decide +kernel
theorem mwX8_reset_5 : Cond.fieldLink RX8 27 "LadleKings$State" "seenDays" "I" ∈ wsX8_reset := by first | exact List.mem_of_getElem? (i := 5) rfl | decide +kernel
theorem mwX8_reset_6 : Cond.fieldLink RX8 31 "LadleKings$State" "bone" "I" ∈ wsX8_reset := by first | exact List.mem_of_getElem? (i := 6) rfl | decide +kernel
theorem mwX8_reset_7 : Cond.fieldLink RX8 34 "LadleKings$State" "king" "I" ∈ wsX8_reset := by first | exact List.mem_of_getElem? (i := 7) rfl | decide +kernel
theorem mwX8_reset_8 : Cond.fieldLink RX8 37 "LadleKings$State" "days" "I" ∈ wsX8_reset := by first | exact List.mem_of_getElem? (i := 8) rfl | decide +kernel
set_option maxHeartbeats 8000000 in
set_option maxRecDepth 100000 in
theorem c_X8_reset (l : Launch) (D : va_G) (G : Nat → ClassId) (sz : Nat) (a_p0 : Nat) (a_p0_pieces : Nat) (a_p0_friends : Nat) (a_p0_spoons : Nat) (a_p0_eaten : Nat) (a_p0_seen : Nat) (i_p0_seenDays : Int) (i_p0_bone : Int) (i_p0_king : Int) (i_p0_days : Int) (v_p0_pieces : (Int → Int)) (v_p0_friends : (Int → Int)) (v_p0_spoons : (Int → Int)) (v_p0_eaten : (Int → Int)) (o_i_p0_seenDays : Int) (o_i_p0_bone : Int) (o_i_p0_king : Int) (o_i_p0_days : Int) (o_v_p0_pieces : (Int → Int)) (o_v_p0_friends : (Int → Int)) (o_v_p0_spoons : (Int → Int)) (o_v_p0_eaten : (Int → Int)) (hf : f_X8_reset v_p0_pieces v_p0_friends v_p0_spoons v_p0_eaten = some (o_i_p0_seenDays, o_i_p0_bone, o_i_p0_king, o_i_p0_days, o_v_p0_pieces, o_v_p0_friends, o_v_p0_spoons, o_v_p0_eaten)) : Met l yX8_reset wsX8_reset rm_X8_reset (pcG D G [.ref a_p0] sz [(a_p0, .inr (8, [.ref a_p0_pieces, .ref a_p0_friends, .ref a_p0_spoons, .ref a_p0_eaten, .ref a_p0_seen, .int (Int32.ofInt i_p0_seenDays), .int (Int32.ofInt i_p0_bone), .int (Int32.ofInt i_p0_king), .int (Int32.ofInt i_p0_days)])), (a_p0_pieces, .inl (G 1, 7, .inl (zA v_p0_pieces))), (a_p0_friends, .inl (G 1, 7, .inl (zA v_p0_friends))), (a_p0_spoons, .inl (G 1, 7, .inl (zA v_p0_spoons))), (a_p0_eaten, .inl (G 1, 7, .inl (zA v_p0_eaten)))]) (qcV D G [(a_p0, .inr (8, [.ref a_p0_pieces, .ref a_p0_friends, .ref a_p0_spoons, .ref a_p0_eaten, .ref a_p0_seen, .int (Int32.ofInt o_i_p0_seenDays), .int (Int32.ofInt o_i_p0_bone), .int (Int32.ofInt o_i_p0_king), .int (Int32.ofInt o_i_p0_days)])), (a_p0_pieces, .inl (G 1, 7, .inl (zA o_v_p0_pieces))), (a_p0_friends, .inl (G 1, 7, .inl (zA o_v_p0_friends))), (a_p0_spoons, .inl (G 1, 7, .inl (zA o_v_p0_spoons))), (a_p0_eaten, .inl (G 1, 7, .inl (zA o_v_p0_eaten)))] (va_A [(a_p0, .inr (8, [.ref a_p0_pieces, .ref a_p0_friends, .ref a_p0_spoons, .ref a_p0_eaten, .ref a_p0_seen, .int (Int32.ofInt i_p0_seenDays), .int (Int32.ofInt i_p0_bone), .int (Int32.ofInt i_p0_king), .int (Int32.ofInt i_p0_days)])), (a_p0_pieces, .inl (G 1, 7, .inl (zA v_p0_pieces))), (a_p0_friends, .inl (G 1, 7, .inl (zA v_p0_friends))), (a_p0_spoons, .inl (G 1, 7, .inl (zA v_p0_spoons))), (a_p0_eaten, .inl (G 1, 7, .inl (zA v_p0_eaten)))] sz)) 0 0 (va_A [(a_p0, .inr (8, [.ref a_p0_pieces, .ref a_p0_friends, .ref a_p0_spoons, .ref a_p0_eaten, .ref a_p0_seen, .int (Int32.ofInt i_p0_seenDays), .int (Int32.ofInt i_p0_bone), .int (Int32.ofInt i_p0_king), .int (Int32.ofInt i_p0_days)])), (a_p0_pieces, .inl (G 1, 7, .inl (zA v_p0_pieces))), (a_p0_friends, .inl (G 1, 7, .inl (zA v_p0_friends))), (a_p0_spoons, .inl (G 1, 7, .inl (zA v_p0_spoons))), (a_p0_eaten, .inl (G 1, 7, .inl (zA v_p0_eaten)))] sz) := by
  refine Met.ofW (cc := cX8_reset) (maxL := 1) (ret := none) (by decide) rfl ?_
  intro p e s m args below meth c s₁ B hml hv
  obtain ⟨rfl, hsz, hP, hK, hD0⟩ := hv
  have hx := B.exec
  have hb := B.bytes
  have hr := B.returns
  have hts := atoms_spec (ws := wsX8_reset) B.pre
  have hown : s.vm.findClass RX8 = some m.cls := findClass_of_methodNamed B.named
  have hlocks := B.notSynchronized
  subst hsz
  have hD := hD0.self (sz := s.heap.size)
  generalize hAe : va_A [(a_p0, .inr (8, [.ref a_p0_pieces, .ref a_p0_friends, .ref a_p0_spoons, .ref a_p0_eaten, .ref a_p0_seen, .int (Int32.ofInt i_p0_seenDays), .int (Int32.ofInt i_p0_bone), .int (Int32.ofInt i_p0_king), .int (Int32.ofInt i_p0_days)])), (a_p0_pieces, .inl (G 1, 7, .inl (zA v_p0_pieces))), (a_p0_friends, .inl (G 1, 7, .inl (zA v_p0_friends))), (a_p0_spoons, .inl (G 1, 7, .inl (zA v_p0_spoons))), (a_p0_eaten, .inl (G 1, 7, .inl (zA v_p0_eaten)))] s.heap.size = A at hD ⊢
  have hA : ∀ q : Nat, s.heap.size ≤ q → A q := fun q h => by rw [← hAe]; exact Or.inr h
  clear hAe hD0
  have hS : va_S A s.heap s.heap [] := va_S.rf
  have hl := lv_entry ([.ref a_p0]) (n := 1) (Nat.le_of_ble_eq_true rfl)
  rw [lg_entry_eq]
  generalize (lg_sl ([.ref a_p0]) ++ List.replicate (1 - (lg_sl ([.ref a_p0])).length) Slot.unset).toArray = ls at hl ⊢
  have hl : lv_has ls 1 [(0, .ref a_p0)] := hl
  refine W_nameQ (fun Q hQ => ?_)
  obtain ⟨H, hH⟩ : ∃ H, H = s.heap := ⟨_, rfl⟩
  replace hS : va_S A s.heap H [] := by rw [hH]; exact hS
  replace hP : va_P D vwCl [(a_p0, .inr (8, [.ref a_p0_pieces, .ref a_p0_friends, .ref a_p0_spoons, .ref a_p0_eaten, .ref a_p0_seen, .int (Int32.ofInt i_p0_seenDays), .int (Int32.ofInt i_p0_bone), .int (Int32.ofInt i_p0_king), .int (Int32.ofInt i_p0_days)])), (a_p0_pieces, .inl (G 1, 7, .inl (zA v_p0_pieces))), (a_p0_friends, .inl (G 1, 7, .inl (zA v_p0_friends))), (a_p0_spoons, .inl (G 1, 7, .inl (zA v_p0_spoons))), (a_p0_eaten, .inl (G 1, 7, .inl (zA v_p0_eaten)))] H := by rw [hH]; exact hP
  rw [← hH]
  clear hH
  unfold f_X8_reset at hf
  refine lv_aload_n hx hb dX8_reset_0 rfl (lv_at hl 0 rfl) ?_
  refine va_get (D := D) (ci := 8) (v := .ref a_p0_pieces) (C := RX8) (T := TX8) (N := 9) hx hb hts inX8_reset_X8 hown hK hP 0 rfl rfl 0 (by decide) (hts _ mwX8_reset_1) (fun _ h9 => h9) rfl dX8_reset_1 ?_
  refine lv_iconst (v := Int32.ofInt (0 : Int)) hx hb dX8_reset_4 (by decide) ?_
  have hq := bd1_s hf
  clear hf
  obtain ⟨w1, hcall, hf⟩ := hq
  refine gsV (ws' := [(a_p0, .inr (8, [.ref a_p0_pieces, .ref a_p0_friends, .ref a_p0_spoons, .ref a_p0_eaten, .ref a_p0_seen, .int (Int32.ofInt i_p0_seenDays), .int (Int32.ofInt i_p0_bone), .int (Int32.ofInt i_p0_king), .int (Int32.ofInt i_p0_days)])), (a_p0_pieces, .inl (G 1, 7, .inl (zA w1))), (a_p0_friends, .inl (G 1, 7, .inl (zA v_p0_friends))), (a_p0_spoons, .inl (G 1, 7, .inl (zA v_p0_spoons))), (a_p0_eaten, .inl (G 1, 7, .inl (zA v_p0_eaten)))]) (va_runS (As := [.ref a_p0_pieces, .int (Int32.ofInt (0 : Int))]) (rest := []) ⟨hx, hb, hml, hown, hts⟩ (c_J7_fill_53178 (l := l) (D := D) (G := G) (sz := H.size) (a_p0 := a_p0_pieces) (n_p0 := 7) (v_p0 := v_p0_pieces) (x1 := (0 : Int)) (o_v_p0 := w1) (hf := hcall)) (va_cwS 2 hts gX8_reset_J7_fill_53178 rfl rfl rfl (by decide +kernel) ⟨Nat.le_of_ble_eq_true rfl, Nat.le_of_ble_eq_true rfl⟩) (preG_S (hP.sub [1] rfl) (hD.sub [1] rfl rfl) hK) rfl rfl hl.1 rfl (lv_room (Nat.le_of_ble_eq_true rfl)) dX8_reset_5 ⟨Nat.le_of_ble_eq_true rfl, Nat.le_of_ble_eq_true rfl⟩) hP hD hS hA [1] rfl rfl rfl (fun H locs hP hD hS => ?_)
  clear hcall
  refine lv_aload_n hx hb dX8_reset_8 rfl (lv_at hl 0 rfl) ?_
  refine va_get (D := D) (ci := 8) (v := .ref a_p0_friends) (C := RX8) (T := TX8) (N := 9) hx hb hts inX8_reset_X8 hown hK hP 0 rfl rfl 1 (by decide) (hts _ mwX8_reset_2) (fun _ h9 => h9) rfl dX8_reset_9 ?_
  refine lv_iconst (v := Int32.ofInt (0 : Int)) hx hb dX8_reset_12 (by decide) ?_
  have hq := bd1_s hf
  clear hf
  obtain ⟨w2, hcall, hf⟩ := hq
  refine gsV (ws' := [(a_p0, .inr (8, [.ref a_p0_pieces, .ref a_p0_friends, .ref a_p0_spoons, .ref a_p0_eaten, .ref a_p0_seen, .int (Int32.ofInt i_p0_seenDays), .int (Int32.ofInt i_p0_bone), .int (Int32.ofInt i_p0_king), .int (Int32.ofInt i_p0_days)])), (a_p0_pieces, .inl (G 1, 7, .inl (zA w1))), (a_p0_friends, .inl (G 1, 7, .inl (zA w2))), (a_p0_spoons, .inl (G 1, 7, .inl (zA v_p0_spoons))), (a_p0_eaten, .inl (G 1, 7, .inl (zA v_p0_eaten)))]) (va_runS (As := [.ref a_p0_friends, .int (Int32.ofInt (0 : Int))]) (rest := []) ⟨hx, hb, hml, hown, hts⟩ (c_J7_fill_53178 (l := l) (D := D) (G := G) (sz := H.size) (a_p0 := a_p0_friends) (n_p0 := 7) (v_p0 := v_p0_friends) (x1 := (0 : Int)) (o_v_p0 := w2) (hf := hcall)) (va_cwS 2 hts gX8_reset_J7_fill_53178 rfl rfl rfl (by decide +kernel) ⟨Nat.le_of_ble_eq_true rfl, Nat.le_of_ble_eq_true rfl⟩) (preG_S (hP.sub [2] rfl) (hD.sub [2] rfl rfl) hK) rfl rfl hl.1 rfl (lv_room (Nat.le_of_ble_eq_true rfl)) dX8_reset_13 ⟨Nat.le_of_ble_eq_true rfl, Nat.le_of_ble_eq_true rfl⟩) hP hD hS hA [2] rfl rfl rfl (fun H locs hP hD hS => ?_)
  clear hcall
  refine lv_aload_n hx hb dX8_reset_16 rfl (lv_at hl 0 rfl) ?_
  refine va_get (D := D) (ci := 8) (v := .ref a_p0_spoons) (C := RX8) (T := TX8) (N := 9) hx hb hts inX8_reset_X8 hown hK hP 0 rfl rfl 2 (by decide) (hts _ mwX8_reset_3) (fun _ h9 => h9) rfl dX8_reset_17 ?_
  refine lv_iconst (v := Int32.ofInt (1 : Int)) hx hb dX8_reset_20 (by decide) ?_
  have hq := bd1_s hf
  clear hf
  obtain ⟨w3, hcall, hf⟩ := hq
  refine gsV (ws' := [(a_p0, .inr (8, [.ref a_p0_pieces, .ref a_p0_friends, .ref a_p0_spoons, .ref a_p0_eaten, .ref a_p0_seen, .int (Int32.ofInt i_p0_seenDays), .int (Int32.ofInt i_p0_bone), .int (Int32.ofInt i_p0_king), .int (Int32.ofInt i_p0_days)])), (a_p0_pieces, .inl (G 1, 7, .inl (zA w1))), (a_p0_friends, .inl (G 1, 7, .inl (zA w2))), (a_p0_spoons, .inl (G 1, 7, .inl (zA w3))), (a_p0_eaten, .inl (G 1, 7, .inl (zA v_p0_eaten)))]) (va_runS (As := [.ref a_p0_spoons, .int (Int32.ofInt (1 : Int))]) (rest := []) ⟨hx, hb, hml, hown, hts⟩ (c_J7_fill_53178 (l := l) (D := D) (G := G) (sz := H.size) (a_p0 := a_p0_spoons) (n_p0 := 7) (v_p0 := v_p0_spoons) (x1 := (1 : Int)) (o_v_p0 := w3) (hf := hcall)) (va_cwS 2 hts gX8_reset_J7_fill_53178 rfl rfl rfl (by decide +kernel) ⟨Nat.le_of_ble_eq_true rfl, Nat.le_of_ble_eq_true rfl⟩) (preG_S (hP.sub [3] rfl) (hD.sub [3] rfl rfl) hK) rfl rfl hl.1 rfl (lv_room (Nat.le_of_ble_eq_true rfl)) dX8_reset_21 ⟨Nat.le_of_ble_eq_true rfl, Nat.le_of_ble_eq_true rfl⟩) hP hD hS hA [3] rfl rfl rfl (fun H locs hP hD hS => ?_)
  clear hcall
  refine lv_aload_n hx hb dX8_reset_24 rfl (lv_at hl 0 rfl) ?_
  refine va_get (D := D) (ci := 8) (v := .ref a_p0_eaten) (C := RX8) (T := TX8) (N := 9) hx hb hts inX8_reset_X8 hown hK hP 0 rfl rfl 3 (by decide) (hts _ mwX8_reset_4) (fun _ h9 => h9) rfl dX8_reset_25 ?_
  refine lv_iconst (v := Int32.ofInt (0 : Int)) hx hb dX8_reset_28 (by decide) ?_
  have hq := bd1_s hf
  clear hf
  obtain ⟨w4, hcall, hf⟩ := hq
  refine gsV (ws' := [(a_p0, .inr (8, [.ref a_p0_pieces, .ref a_p0_friends, .ref a_p0_spoons, .ref a_p0_eaten, .ref a_p0_seen, .int (Int32.ofInt i_p0_seenDays), .int (Int32.ofInt i_p0_bone), .int (Int32.ofInt i_p0_king), .int (Int32.ofInt i_p0_days)])), (a_p0_pieces, .inl (G 1, 7, .inl (zA w1))), (a_p0_friends, .inl (G 1, 7, .inl (zA w2))), (a_p0_spoons, .inl (G 1, 7, .inl (zA w3))), (a_p0_eaten, .inl (G 1, 7, .inl (zA w4)))]) (va_runS (As := [.ref a_p0_eaten, .int (Int32.ofInt (0 : Int))]) (rest := []) ⟨hx, hb, hml, hown, hts⟩ (c_J7_fill_53178 (l := l) (D := D) (G := G) (sz := H.size) (a_p0 := a_p0_eaten) (n_p0 := 7) (v_p0 := v_p0_eaten) (x1 := (0 : Int)) (o_v_p0 := w4) (hf := hcall)) (va_cwS 2 hts gX8_reset_J7_fill_53178 rfl rfl rfl (by decide +kernel) ⟨Nat.le_of_ble_eq_true rfl, Nat.le_of_ble_eq_true rfl⟩) (preG_S (hP.sub [4] rfl) (hD.sub [4] rfl rfl) hK) rfl rfl hl.1 rfl (lv_room (Nat.le_of_ble_eq_true rfl)) dX8_reset_29 ⟨Nat.le_of_ble_eq_true rfl, Nat.le_of_ble_eq_true rfl⟩) hP hD hS hA [4] rfl rfl rfl (fun H locs hP hD hS => ?_)
  clear hcall
  refine lv_aload_n hx hb dX8_reset_32 rfl (lv_at hl 0 rfl) ?_
  refine lv_iconst (v := Int32.ofInt (0 : Int)) hx hb dX8_reset_33 (by decide) ?_
  refine z_topi (fun z5 ez => ?_)
  replace hf := bnd_s hf ez
  clear ez
  refine va_put (D := D) (ci := 8) (v := .int (Int32.ofInt z5)) (ty := .int) (C := RX8) (T := TX8) (N := 9) hx hb hts inX8_reset_X8 tyX8 tyX8_ok nmX8 hown hK hP hD hS 0 rfl rfl 5 (by decide) (hts _ mwX8_reset_5) (fun _ h9 => h9) rfl (by decide +kernel) rfl rfl (Nat.le_of_ble_eq_true rfl) dX8_reset_34 (fun H locs hP hD hS => ?_)
  have hP : va_P D vwCl [(a_p0, .inr (8, [.ref a_p0_pieces, .ref a_p0_friends, .ref a_p0_spoons, .ref a_p0_eaten, .ref a_p0_seen, .int (Int32.ofInt z5), .int (Int32.ofInt i_p0_bone), .int (Int32.ofInt i_p0_king), .int (Int32.ofInt i_p0_days)])), (a_p0_pieces, .inl (G 1, 7, .inl (zA w1))), (a_p0_friends, .inl (G 1, 7, .inl (zA w2))), (a_p0_spoons, .inl (G 1, 7, .inl (zA w3))), (a_p0_eaten, .inl (G 1, 7, .inl (zA w4)))] H := hP
  have hD : va_D A [(a_p0, .inr (8, [.ref a_p0_pieces, .ref a_p0_friends, .ref a_p0_spoons, .ref a_p0_eaten, .ref a_p0_seen, .int (Int32.ofInt z5), .int (Int32.ofInt i_p0_bone), .int (Int32.ofInt i_p0_king), .int (Int32.ofInt i_p0_days)])), (a_p0_pieces, .inl (G 1, 7, .inl (zA w1))), (a_p0_friends, .inl (G 1, 7, .inl (zA w2))), (a_p0_spoons, .inl (G 1, 7, .inl (zA w3))), (a_p0_eaten, .inl (G 1, 7, .inl (zA w4)))] := hD
  refine lv_aload_n hx hb dX8_reset_37 rfl (lv_at hl 0 rfl) ?_
  refine lv_iconst (v := Int32.ofInt (0 : Int)) hx hb dX8_reset_38 (by decide) ?_
  refine z_topi (fun z6 ez => ?_)
  replace hf := bnd_s hf ez
  clear ez
  refine va_put (D := D) (ci := 8) (v := .int (Int32.ofInt z6)) (ty := .int) (C := RX8) (T := TX8) (N := 9) hx hb hts inX8_reset_X8 tyX8 tyX8_ok nmX8 hown hK hP hD hS 0 rfl rfl 6 (by decide) (hts _ mwX8_reset_6) (fun _ h9 => h9) rfl (by decide +kernel) rfl rfl (Nat.le_of_ble_eq_true rfl) dX8_reset_39 (fun H locs hP hD hS => ?_)
  have hP : va_P D vwCl [(a_p0, .inr (8, [.ref a_p0_pieces, .ref a_p0_friends, .ref a_p0_spoons, .ref a_p0_eaten, .ref a_p0_seen, .int (Int32.ofInt z5), .int (Int32.ofInt z6), .int (Int32.ofInt i_p0_king), .int (Int32.ofInt i_p0_days)])), (a_p0_pieces, .inl (G 1, 7, .inl (zA w1))), (a_p0_friends, .inl (G 1, 7, .inl (zA w2))), (a_p0_spoons, .inl (G 1, 7, .inl (zA w3))), (a_p0_eaten, .inl (G 1, 7, .inl (zA w4)))] H := hP
  have hD : va_D A [(a_p0, .inr (8, [.ref a_p0_pieces, .ref a_p0_friends, .ref a_p0_spoons, .ref a_p0_eaten, .ref a_p0_seen, .int (Int32.ofInt z5), .int (Int32.ofInt z6), .int (Int32.ofInt i_p0_king), .int (Int32.ofInt i_p0_days)])), (a_p0_pieces, .inl (G 1, 7, .inl (zA w1))), (a_p0_friends, .inl (G 1, 7, .inl (zA w2))), (a_p0_spoons, .inl (G 1, 7, .inl (zA w3))), (a_p0_eaten, .inl (G 1, 7, .inl (zA w4)))] := hD
  refine lv_aload_n hx hb dX8_reset_42 rfl (lv_at hl 0 rfl) ?_
  refine lv_iconst (v := Int32.ofInt (0 : Int)) hx hb dX8_reset_43 (by decide) ?_
  refine z_topi (fun z7 ez => ?_)
  replace hf := bnd_s hf ez
  clear ez
  refine va_put (D := D) (ci := 8) (v := .int (Int32.ofInt z7)) (ty := .int) (C := RX8) (T := TX8) (N := 9) hx hb hts inX8_reset_X8 tyX8 tyX8_ok nmX8 hown hK hP hD hS 0 rfl rfl 7 (by decide) (hts _ mwX8_reset_7) (fun _ h9 => h9) rfl (by decide +kernel) rfl rfl (Nat.le_of_ble_eq_true rfl) dX8_reset_44 (fun H locs hP hD hS => ?_)
  have hP : va_P D vwCl [(a_p0, .inr (8, [.ref a_p0_pieces, .ref a_p0_friends, .ref a_p0_spoons, .ref a_p0_eaten, .ref a_p0_seen, .int (Int32.ofInt z5), .int (Int32.ofInt z6), .int (Int32.ofInt z7), .int (Int32.ofInt i_p0_days)])), (a_p0_pieces, .inl (G 1, 7, .inl (zA w1))), (a_p0_friends, .inl (G 1, 7, .inl (zA w2))), (a_p0_spoons, .inl (G 1, 7, .inl (zA w3))), (a_p0_eaten, .inl (G 1, 7, .inl (zA w4)))] H := hP
  have hD : va_D A [(a_p0, .inr (8, [.ref a_p0_pieces, .ref a_p0_friends, .ref a_p0_spoons, .ref a_p0_eaten, .ref a_p0_seen, .int (Int32.ofInt z5), .int (Int32.ofInt z6), .int (Int32.ofInt z7), .int (Int32.ofInt i_p0_days)])), (a_p0_pieces, .inl (G 1, 7, .inl (zA w1))), (a_p0_friends, .inl (G 1, 7, .inl (zA w2))), (a_p0_spoons, .inl (G 1, 7, .inl (zA w3))), (a_p0_eaten, .inl (G 1, 7, .inl (zA w4)))] := hD
  refine lv_aload_n hx hb dX8_reset_47 rfl (lv_at hl 0 rfl) ?_
  refine lv_iconst (v := Int32.ofInt (0 : Int)) hx hb dX8_reset_48 (by decide) ?_
  refine z_topi (fun z8 ez => ?_)
  replace hf := bnd_s hf ez
  clear ez
  refine va_put (D := D) (ci := 8) (v := .int (Int32.ofInt z8)) (ty := .int) (C := RX8) (T := TX8) (N := 9) hx hb hts inX8_reset_X8 tyX8 tyX8_ok nmX8 hown hK hP hD hS 0 rfl rfl 8 (by decide) (hts _ mwX8_reset_8) (fun _ h9 => h9) rfl (by decide +kernel) rfl rfl (Nat.le_of_ble_eq_true rfl) dX8_reset_49 (fun H locs hP hD hS => ?_)
  have hP : va_P D vwCl [(a_p0, .inr (8, [.ref a_p0_pieces, .ref a_p0_friends, .ref a_p0_spoons, .ref a_p0_eaten, .ref a_p0_seen, .int (Int32.ofInt z5), .int (Int32.ofInt z6), .int (Int32.ofInt z7), .int (Int32.ofInt z8)])), (a_p0_pieces, .inl (G 1, 7, .inl (zA w1))), (a_p0_friends, .inl (G 1, 7, .inl (zA w2))), (a_p0_spoons, .inl (G 1, 7, .inl (zA w3))), (a_p0_eaten, .inl (G 1, 7, .inl (zA w4)))] H := hP
  have hD : va_D A [(a_p0, .inr (8, [.ref a_p0_pieces, .ref a_p0_friends, .ref a_p0_spoons, .ref a_p0_eaten, .ref a_p0_seen, .int (Int32.ofInt z5), .int (Int32.ofInt z6), .int (Int32.ofInt z7), .int (Int32.ofInt z8)])), (a_p0_pieces, .inl (G 1, 7, .inl (zA w1))), (a_p0_friends, .inl (G 1, 7, .inl (zA w2))), (a_p0_spoons, .inl (G 1, 7, .inl (zA w3))), (a_p0_eaten, .inl (G 1, 7, .inl (zA w4)))] := hD
  obtain ⟨rfl, rfl, rfl, rfl, rfl, rfl, rfl, rfl⟩ := ou8 hf
  rw [hQ]
  exact W.vret hx hb hr (fun t ht hW => ⟨⟨(), rfl, trivial, by rw [ht]; exact hP, va_K.moved hW.alike hK, hD⟩, hS.F ht⟩) hS.2.2 dX8_reset_52

noncomputable def f_X8_copy (v_p0_pieces : (Int → Int)) (v_p0_friends : (Int → Int)) (v_p0_spoons : (Int → Int)) (v_p0_eaten : (Int → Int)) (v_p0_seen : (Int → Int)) (i_p1_seenDays : Int) (i_p1_bone : Int) (i_p1_king : Int) (i_p1_days : Int) (v_p1_pieces : (Int → Int)) (v_p1_friends : (Int → Int)) (v_p1_spoons : (Int → Int)) (v_p1_eaten : (Int → Int)) (v_p1_seen : (Int → Int)) : Option (Int × Int × Int × Int × (Int → Int) × (Int → Int) × (Int → Int) × (Int → Int) × (Int → Int)) := (ck (z_cp (0 : Int) (7 : Int) 7) (ck (z_cp (0 : Int) (7 : Int) 7) (bnd (z_cpy v_p1_pieces v_p0_pieces (0 : Int) (0 : Int) (7 : Int)) (fun (w1 : (Int → Int)) => (ck (z_cp (0 : Int) (7 : Int) 7) (ck (z_cp (0 : Int) (7 : Int) 7) (bnd (z_cpy v_p1_friends v_p0_friends (0 : Int) (0 : Int) (7 : Int)) (fun (w2 : (Int → Int)) => (ck (z_cp (0 : Int) (7 : Int) 7) (ck (z_cp (0 : Int) (7 : Int) 7) (bnd (z_cpy v_p1_spoons v_p0_spoons (0 : Int) (0 : Int) (7 : Int)) (fun (w3 : (Int → Int)) => (ck (z_cp (0 : Int) (7 : Int) 7) (ck (z_cp (0 : Int) (7 : Int) 7) (bnd (z_cpy v_p1_eaten v_p0_eaten (0 : Int) (0 : Int) (7 : Int)) (fun (w4 : (Int → Int)) => (ck (z_cp (0 : Int) (6 : Int) 6) (ck (z_cp (0 : Int) (6 : Int) 6) (bnd (z_cpy v_p1_seen v_p0_seen (0 : Int) (0 : Int) (6 : Int)) (fun (w5 : (Int → Int)) => (bnd i_p1_seenDays (fun (z6 : Int) => (bnd i_p1_bone (fun (z7 : Int) => (bnd i_p1_king (fun (z8 : Int) => (bnd i_p1_days (fun (z9 : Int) => (some (z6, z7, z8, z9, w1, w2, w3, w4, w5))))))))))))))))))))))))))))))
abbrev rm_X8_copy : Room := { frames := 1, cells := 0, slots := 0, locals := 60 }
theorem inX8_copy_X8 : ∀ w ∈ wsX80, w ∈ wsX8_copy := by first | exact fun w h => List.mem_cons_of_mem _ (List.mem_append_right _ h) | decide +kernel
theorem mwX8_copy_1 : Cond.fieldLink RX8 9 "LadleKings$State" "pieces" "[I" ∈ wsX8_copy := by first | exact List.mem_of_getElem? (i := 1) rfl | decide +kernel
theorem mwX8_copy_2 : Cond.methodLink RX8 46 arraycopyName ∈ wsX8_copy := by first | exact List.mem_of_getElem? (i := 2) rfl | decide +kernel
theorem mwX8_copy_3 : Cond.native arraycopyName ∈ wsX8_copy := by first | exact List.mem_of_getElem? (i := 3) rfl | decide +kernel
theorem mwX8_copy_4 : Cond.static arraycopyName ∈ wsX8_copy := by first | exact List.mem_of_getElem? (i := 4) rfl | decide +kernel
theorem mwX8_copy_5 : Cond.initialized "java/lang/System" ∈ wsX8_copy := by first | exact List.mem_of_getElem? (i := 5) rfl | decide +kernel
theorem mwX8_copy_6 : Cond.fieldLink RX8 15 "LadleKings$State" "friends" "[I" ∈ wsX8_copy := by first | exact List.mem_of_getElem? (i := 6) rfl | decide +kernel
theorem mwX8_copy_7 : Cond.fieldLink RX8 18 "LadleKings$State" "spoons" "[I" ∈ wsX8_copy := by first | exact List.mem_of_getElem? (i := 7) rfl | decide +kernel
theorem mwX8_copy_8 : Cond.fieldLink RX8 21 "LadleKings$State" "eaten" "[I" ∈ wsX8_copy := by first | exact List.mem_of_getElem? (i := 8) rfl | decide +kernel
theorem mwX8_copy_9 : Cond.fieldLink RX8 24 "LadleKings$State" "seen" "[I" ∈ wsX8_copy := by first | exact List.mem_of_getElem? (i := 9) rfl | decide +kernel
theorem mwX8_copy_10 : Cond.fieldLink RX8 27 "LadleKings$State" "seenDays" "I" ∈ wsX8_copy := by first | exact List.mem_of_getElem? (i := 10) rfl | decide +kernel
theorem mwX8_copy_11 : Cond.fieldLink RX8 31 "LadleKings$State" "bone" "I" ∈ wsX8_copy := by first | exact List.mem_of_getElem? (i := 11) rfl | decide +kernel
theorem mwX8_copy_12 : Cond.fieldLink RX8 34 "LadleKings$State" "king" "I" ∈ wsX8_copy := by first | exact List.mem_of_getElem? (i := 12) rfl | decide +kernel
theorem mwX8_copy_13 : Cond.fieldLink RX8 37 "LadleKings$State" "days" "I" ∈ wsX8_copy := by first | exact List.mem_of_getElem? (i := 13) rfl | decide +kernel
set_option maxHeartbeats 8000000 in
set_option maxRecDepth 100000 in
theorem c_X8_copy (l : Launch) (D : va_G) (G : Nat → ClassId) (sz : Nat) (a_p0 : Nat) (a_p0_pieces : Nat) (a_p0_friends : Nat) (a_p0_spoons : Nat) (a_p0_eaten : Nat) (a_p0_seen : Nat) (a_p1 : Nat) (a_p1_pieces : Nat) (a_p1_friends : Nat) (a_p1_spoons : Nat) (a_p1_eaten : Nat) (a_p1_seen : Nat) (i_p0_seenDays : Int) (i_p0_bone : Int) (i_p0_king : Int) (i_p0_days : Int) (v_p0_pieces : (Int → Int)) (v_p0_friends : (Int → Int)) (v_p0_spoons : (Int → Int)) (v_p0_eaten : (Int → Int)) (v_p0_seen : (Int → Int)) (i_p1_seenDays : Int) (i_p1_bone : Int) (i_p1_king : Int) (i_p1_days : Int) (v_p1_pieces : (Int → Int)) (v_p1_friends : (Int → Int)) (v_p1_spoons : (Int → Int)) (v_p1_eaten : (Int → Int)) (v_p1_seen : (Int → Int)) (o_i_p0_seenDays : Int) (o_i_p0_bone : Int) (o_i_p0_king : Int) (o_i_p0_days : Int) (o_v_p0_pieces : (Int → Int)) (o_v_p0_friends : (Int → Int)) (o_v_p0_spoons : (Int → Int)) (o_v_p0_eaten : (Int → Int)) (o_v_p0_seen : (Int → Int)) (hf : f_X8_copy v_p0_pieces v_p0_friends v_p0_spoons v_p0_eaten v_p0_seen i_p1_seenDays i_p1_bone i_p1_king i_p1_days v_p1_pieces v_p1_friends v_p1_spoons v_p1_eaten v_p1_seen = some (o_i_p0_seenDays, o_i_p0_bone, o_i_p0_king, o_i_p0_days, o_v_p0_pieces, o_v_p0_friends, o_v_p0_spoons, o_v_p0_eaten, o_v_p0_seen)) : Met l yX8_copy wsX8_copy rm_X8_copy (pcG D G [.ref a_p0, .ref a_p1] sz [(a_p0, .inr (8, [.ref a_p0_pieces, .ref a_p0_friends, .ref a_p0_spoons, .ref a_p0_eaten, .ref a_p0_seen, .int (Int32.ofInt i_p0_seenDays), .int (Int32.ofInt i_p0_bone), .int (Int32.ofInt i_p0_king), .int (Int32.ofInt i_p0_days)])), (a_p0_pieces, .inl (G 1, 7, .inl (zA v_p0_pieces))), (a_p0_friends, .inl (G 1, 7, .inl (zA v_p0_friends))), (a_p0_spoons, .inl (G 1, 7, .inl (zA v_p0_spoons))), (a_p0_eaten, .inl (G 1, 7, .inl (zA v_p0_eaten))), (a_p0_seen, .inl (G 1, 6, .inl (zA v_p0_seen))), (a_p1, .inr (8, [.ref a_p1_pieces, .ref a_p1_friends, .ref a_p1_spoons, .ref a_p1_eaten, .ref a_p1_seen, .int (Int32.ofInt i_p1_seenDays), .int (Int32.ofInt i_p1_bone), .int (Int32.ofInt i_p1_king), .int (Int32.ofInt i_p1_days)])), (a_p1_pieces, .inl (G 1, 7, .inl (zA v_p1_pieces))), (a_p1_friends, .inl (G 1, 7, .inl (zA v_p1_friends))), (a_p1_spoons, .inl (G 1, 7, .inl (zA v_p1_spoons))), (a_p1_eaten, .inl (G 1, 7, .inl (zA v_p1_eaten))), (a_p1_seen, .inl (G 1, 6, .inl (zA v_p1_seen)))]) (qcV D G [(a_p0, .inr (8, [.ref a_p0_pieces, .ref a_p0_friends, .ref a_p0_spoons, .ref a_p0_eaten, .ref a_p0_seen, .int (Int32.ofInt o_i_p0_seenDays), .int (Int32.ofInt o_i_p0_bone), .int (Int32.ofInt o_i_p0_king), .int (Int32.ofInt o_i_p0_days)])), (a_p0_pieces, .inl (G 1, 7, .inl (zA o_v_p0_pieces))), (a_p0_friends, .inl (G 1, 7, .inl (zA o_v_p0_friends))), (a_p0_spoons, .inl (G 1, 7, .inl (zA o_v_p0_spoons))), (a_p0_eaten, .inl (G 1, 7, .inl (zA o_v_p0_eaten))), (a_p0_seen, .inl (G 1, 6, .inl (zA o_v_p0_seen))), (a_p1, .inr (8, [.ref a_p1_pieces, .ref a_p1_friends, .ref a_p1_spoons, .ref a_p1_eaten, .ref a_p1_seen, .int (Int32.ofInt i_p1_seenDays), .int (Int32.ofInt i_p1_bone), .int (Int32.ofInt i_p1_king), .int (Int32.ofInt i_p1_days)])), (a_p1_pieces, .inl (G 1, 7, .inl (zA v_p1_pieces))), (a_p1_friends, .inl (G 1, 7, .inl (zA v_p1_friends))), (a_p1_spoons, .inl (G 1, 7, .inl (zA v_p1_spoons))), (a_p1_eaten, .inl (G 1, 7, .inl (zA v_p1_eaten))), (a_p1_seen, .inl (G 1, 6, .inl (zA v_p1_seen)))] (va_A [(a_p0, .inr (8, [.ref a_p0_pieces, .ref a_p0_friends, .ref a_p0_spoons, .ref a_p0_eaten, .ref a_p0_seen, .int (Int32.ofInt i_p0_seenDays), .int (Int32.ofInt i_p0_bone), .int (Int32.ofInt i_p0_king), .int (Int32.ofInt i_p0_days)])), (a_p0_pieces, .inl (G 1, 7, .inl (zA v_p0_pieces))), (a_p0_friends, .inl (G 1, 7, .inl (zA v_p0_friends))), (a_p0_spoons, .inl (G 1, 7, .inl (zA v_p0_spoons))), (a_p0_eaten, .inl (G 1, 7, .inl (zA v_p0_eaten))), (a_p0_seen, .inl (G 1, 6, .inl (zA v_p0_seen))), (a_p1, .inr (8, [.ref a_p1_pieces, .ref a_p1_friends, .ref a_p1_spoons, .ref a_p1_eaten, .ref a_p1_seen, .int (Int32.ofInt i_p1_seenDays), .int (Int32.ofInt i_p1_bone), .int (Int32.ofInt i_p1_king), .int (Int32.ofInt i_p1_days)])), (a_p1_pieces, .inl (G 1, 7, .inl (zA v_p1_pieces))), (a_p1_friends, .inl (G 1, 7, .inl (zA v_p1_friends))), (a_p1_spoons, .inl (G 1, 7, .inl (zA v_p1_spoons))), (a_p1_eaten, .inl (G 1, 7, .inl (zA v_p1_eaten))), (a_p1_seen, .inl (G 1, 6, .inl (zA v_p1_seen)))] sz)) 0 0 (va_A [(a_p0, .inr (8, [.ref a_p0_pieces, .ref a_p0_friends, .ref a_p0_spoons, .ref a_p0_eaten, .ref a_p0_seen, .int (Int32.ofInt i_p0_seenDays), .int (Int32.ofInt i_p0_bone), .int (Int32.ofInt i_p0_king), .int (Int32.ofInt i_p0_days)])), (a_p0_pieces, .inl (G 1, 7, .inl (zA v_p0_pieces))), (a_p0_friends, .inl (G 1, 7, .inl (zA v_p0_friends))), (a_p0_spoons, .inl (G 1, 7, .inl (zA v_p0_spoons))), (a_p0_eaten, .inl (G 1, 7, .inl (zA v_p0_eaten))), (a_p0_seen, .inl (G 1, 6, .inl (zA v_p0_seen))), (a_p1, .inr (8, [.ref a_p1_pieces, .ref a_p1_friends, .ref a_p1_spoons, .ref a_p1_eaten, .ref a_p1_seen, .int (Int32.ofInt i_p1_seenDays), .int (Int32.ofInt i_p1_bone), .int (Int32.ofInt i_p1_king), .int (Int32.ofInt i_p1_days)])), (a_p1_pieces, .inl (G 1, 7, .inl (zA v_p1_pieces))), (a_p1_friends, .inl (G 1, 7, .inl (zA v_p1_friends))), (a_p1_spoons, .inl (G 1, 7, .inl (zA v_p1_spoons))), (a_p1_eaten, .inl (G 1, 7, .inl (zA v_p1_eaten))), (a_p1_seen, .inl (G 1, 6, .inl (zA v_p1_seen)))] sz) := by
  refine Met.ofW (cc := cX8_copy) (maxL := 2) (ret := none) (by decide) rfl ?_
  intro p e s m args below meth c s₁ B hml hv
  obtain ⟨rfl, hsz, hP, hK, hD0⟩ := hv
  have hx := B.exec
  have hb := B.bytes
  have hr := B.returns
  have hts := atoms_spec (ws := wsX8_copy) B.pre
  have hown : s.vm.findClass RX8 = some m.cls := findClass_of_methodNamed B.named
  have hlocks := B.notSynchronized
  subst hsz
  have hD := hD0.self (sz := s.heap.size)
  generalize hAe : va_A [(a_p0, .inr (8, [.ref a_p0_pieces, .ref a_p0_friends, .ref a_p0_spoons, .ref a_p0_eaten, .ref a_p0_seen, .int (Int32.ofInt i_p0_seenDays), .int (Int32.ofInt i_p0_bone), .int (Int32.ofInt i_p0_king), .int (Int32.ofInt i_p0_days)])), (a_p0_pieces, .inl (G 1, 7, .inl (zA v_p0_pieces))), (a_p0_friends, .inl (G 1, 7, .inl (zA v_p0_friends))), (a_p0_spoons, .inl (G 1, 7, .inl (zA v_p0_spoons))), (a_p0_eaten, .inl (G 1, 7, .inl (zA v_p0_eaten))), (a_p0_seen, .inl (G 1, 6, .inl (zA v_p0_seen))), (a_p1, .inr (8, [.ref a_p1_pieces, .ref a_p1_friends, .ref a_p1_spoons, .ref a_p1_eaten, .ref a_p1_seen, .int (Int32.ofInt i_p1_seenDays), .int (Int32.ofInt i_p1_bone), .int (Int32.ofInt i_p1_king), .int (Int32.ofInt i_p1_days)])), (a_p1_pieces, .inl (G 1, 7, .inl (zA v_p1_pieces))), (a_p1_friends, .inl (G 1, 7, .inl (zA v_p1_friends))), (a_p1_spoons, .inl (G 1, 7, .inl (zA v_p1_spoons))), (a_p1_eaten, .inl (G 1, 7, .inl (zA v_p1_eaten))), (a_p1_seen, .inl (G 1, 6, .inl (zA v_p1_seen)))] s.heap.size = A at hD ⊢
  have hA : ∀ q : Nat, s.heap.size ≤ q → A q := fun q h => by rw [← hAe]; exact Or.inr h
  clear hAe hD0
  have hS : va_S A s.heap s.heap [] := va_S.rf
  have hl := lv_entry ([.ref a_p0, .ref a_p1]) (n := 2) (Nat.le_of_ble_eq_true rfl)
  rw [lg_entry_eq]
  generalize (lg_sl ([.ref a_p0, .ref a_p1]) ++ List.replicate (2 - (lg_sl ([.ref a_p0, .ref a_p1])).length) Slot.unset).toArray = ls at hl ⊢
  have hl : lv_has ls 2 [(0, .ref a_p0), (1, .ref a_p1)] := hl
  refine W_nameQ (fun Q hQ => ?_)
  obtain ⟨H, hH⟩ : ∃ H, H = s.heap := ⟨_, rfl⟩
  replace hS : va_S A s.heap H [] := by rw [hH]; exact hS
  replace hP : va_P D vwCl [(a_p0, .inr (8, [.ref a_p0_pieces, .ref a_p0_friends, .ref a_p0_spoons, .ref a_p0_eaten, .ref a_p0_seen, .int (Int32.ofInt i_p0_seenDays), .int (Int32.ofInt i_p0_bone), .int (Int32.ofInt i_p0_king), .int (Int32.ofInt i_p0_days)])), (a_p0_pieces, .inl (G 1, 7, .inl (zA v_p0_pieces))), (a_p0_friends, .inl (G 1, 7, .inl (zA v_p0_friends))), (a_p0_spoons, .inl (G 1, 7, .inl (zA v_p0_spoons))), (a_p0_eaten, .inl (G 1, 7, .inl (zA v_p0_eaten))), (a_p0_seen, .inl (G 1, 6, .inl (zA v_p0_seen))), (a_p1, .inr (8, [.ref a_p1_pieces, .ref a_p1_friends, .ref a_p1_spoons, .ref a_p1_eaten, .ref a_p1_seen, .int (Int32.ofInt i_p1_seenDays), .int (Int32.ofInt i_p1_bone), .int (Int32.ofInt i_p1_king), .int (Int32.ofInt i_p1_days)])), (a_p1_pieces, .inl (G 1, 7, .inl (zA v_p1_pieces))), (a_p1_friends, .inl (G 1, 7, .inl (zA v_p1_friends))), (a_p1_spoons, .inl (G 1, 7, .inl (zA v_p1_spoons))), (a_p1_eaten, .inl (G 1, 7, .inl (zA v_p1_eaten))), (a_p1_seen, .inl (G 1, 6, .inl (zA v_p1_seen)))] H := by rw [hH]; exact hP
  rw [← hH]
  clear hH
  unfold f_X8_copy at hf
  refine lv_aload_n hx hb dX8_copy_0 rfl (lv_at hl 1 rfl) ?_
  refine va_get (D := D) (ci := 8) (v := .ref a_p1_pieces) (C := RX8) (T := TX8) (N := 9) hx hb hts inX8_copy_X8 hown hK hP 6 rfl rfl 0 (by decide) (hts _ mwX8_copy_1) (fun _ h9 => h9) rfl dX8_copy_1 ?_
  refine lv_iconst (v := Int32.ofInt (0 : Int)) hx hb dX8_copy_4 (by decide) ?_
  refine lv_aload_n hx hb dX8_copy_5 rfl (lv_at hl 0 rfl) ?_
  refine va_get (D := D) (ci := 8) (v := .ref a_p0_pieces) (C := RX8) (T := TX8) (N := 9) hx hb hts inX8_copy_X8 hown hK hP 0 rfl rfl 0 (by decide) (hts _ mwX8_copy_1) (fun _ h9 => h9) rfl dX8_copy_6 ?_
  refine lv_iconst (v := Int32.ofInt (0 : Int)) hx hb dX8_copy_9 (by decide) ?_
  refine lv_bipush (v := Int32.ofInt (7 : Int)) hx hb dX8_copy_10 (by decide) ?_
  have hc0 := ck_c hf
  have hc := z_cp_s hc0
  replace hf := ck_r hf
  have hc02 := ck_c hf
  have hc2 := z_cp_s hc02
  replace hf := ck_r hf
  refine va_copyi hx hb (by rw [hml]; exact hl.1.symm) hown (hts _ mwX8_copy_2) (hts _ mwX8_copy_3) (hts _ mwX8_copy_4) (hts _ mwX8_copy_5) hK hP hD hS 7 1 1 1 rfl rfl rfl rfl rfl hc.1 hc2.1 hc.2.1 hc.2.2 hc2.2.2 (fun _ _ => rfl) (Nat.le_of_ble_eq_true rfl) (Nat.le_of_ble_eq_true rfl) dX8_copy_12 (fun H locs hP hD hS => ?_)
  obtain ⟨w1, ez⟩ : ∃ y : (Int → Int), y = (z_cpy v_p1_pieces v_p0_pieces (0 : Int) (0 : Int) (7 : Int)) := ⟨_, rfl⟩
  have hP : va_P D vwCl [(a_p0, .inr (8, [.ref a_p0_pieces, .ref a_p0_friends, .ref a_p0_spoons, .ref a_p0_eaten, .ref a_p0_seen, .int (Int32.ofInt i_p0_seenDays), .int (Int32.ofInt i_p0_bone), .int (Int32.ofInt i_p0_king), .int (Int32.ofInt i_p0_days)])), (a_p0_pieces, .inl (G 1, 7, .inl (zA w1))), (a_p0_friends, .inl (G 1, 7, .inl (zA v_p0_friends))), (a_p0_spoons, .inl (G 1, 7, .inl (zA v_p0_spoons))), (a_p0_eaten, .inl (G 1, 7, .inl (zA v_p0_eaten))), (a_p0_seen, .inl (G 1, 6, .inl (zA v_p0_seen))), (a_p1, .inr (8, [.ref a_p1_pieces, .ref a_p1_friends, .ref a_p1_spoons, .ref a_p1_eaten, .ref a_p1_seen, .int (Int32.ofInt i_p1_seenDays), .int (Int32.ofInt i_p1_bone), .int (Int32.ofInt i_p1_king), .int (Int32.ofInt i_p1_days)])), (a_p1_pieces, .inl (G 1, 7, .inl (zA v_p1_pieces))), (a_p1_friends, .inl (G 1, 7, .inl (zA v_p1_friends))), (a_p1_spoons, .inl (G 1, 7, .inl (zA v_p1_spoons))), (a_p1_eaten, .inl (G 1, 7, .inl (zA v_p1_eaten))), (a_p1_seen, .inl (G 1, 6, .inl (zA v_p1_seen)))] H := by rw [ez, ← z_cpy_e hc0 hc02]; exact hP
  have hD : va_D A [(a_p0, .inr (8, [.ref a_p0_pieces, .ref a_p0_friends, .ref a_p0_spoons, .ref a_p0_eaten, .ref a_p0_seen, .int (Int32.ofInt i_p0_seenDays), .int (Int32.ofInt i_p0_bone), .int (Int32.ofInt i_p0_king), .int (Int32.ofInt i_p0_days)])), (a_p0_pieces, .inl (G 1, 7, .inl (zA w1))), (a_p0_friends, .inl (G 1, 7, .inl (zA v_p0_friends))), (a_p0_spoons, .inl (G 1, 7, .inl (zA v_p0_spoons))), (a_p0_eaten, .inl (G 1, 7, .inl (zA v_p0_eaten))), (a_p0_seen, .inl (G 1, 6, .inl (zA v_p0_seen))), (a_p1, .inr (8, [.ref a_p1_pieces, .ref a_p1_friends, .ref a_p1_spoons, .ref a_p1_eaten, .ref a_p1_seen, .int (Int32.ofInt i_p1_seenDays), .int (Int32.ofInt i_p1_bone), .int (Int32.ofInt i_p1_king), .int (Int32.ofInt i_p1_days)])), (a_p1_pieces, .inl (G 1, 7, .inl (zA v_p1_pieces))), (a_p1_friends, .inl (G 1, 7, .inl (zA v_p1_friends))), (a_p1_spoons, .inl (G 1, 7, .inl (zA v_p1_spoons))), (a_p1_eaten, .inl (G 1, 7, .inl (zA v_p1_eaten))), (a_p1_seen, .inl (G 1, 6, .inl (zA v_p1_seen)))] := by rw [ez, ← z_cpy_e hc0 hc02]; exact hD
  replace hf := bnd_s hf ez
  clear ez hc hc2 hc0 hc02
  refine lv_aload_n hx hb dX8_copy_15 rfl (lv_at hl 1 rfl) ?_
  refine va_get (D := D) (ci := 8) (v := .ref a_p1_friends) (C := RX8) (T := TX8) (N := 9) hx hb hts inX8_copy_X8 hown hK hP 6 rfl rfl 1 (by decide) (hts _ mwX8_copy_6) (fun _ h9 => h9) rfl dX8_copy_16 ?_
  refine lv_iconst (v := Int32.ofInt (0 : Int)) hx hb dX8_copy_19 (by decide) ?_
  refine lv_aload_n hx hb dX8_copy_20 rfl (lv_at hl 0 rfl) ?_
  refine va_get (D := D) (ci := 8) (v := .ref a_p0_friends) (C := RX8) (T := TX8) (N := 9) hx hb hts inX8_copy_X8 hown hK hP 0 rfl rfl 1 (by decide) (hts _ mwX8_copy_6) (fun _ h9 => h9) rfl dX8_copy_21 ?_
  refine lv_iconst (v := Int32.ofInt (0 : Int)) hx hb dX8_copy_24 (by decide) ?_
  refine lv_bipush (v := Int32.ofInt (7 : Int)) hx hb dX8_copy_25 (by decide) ?_
  have hc0 := ck_c hf
  have hc := z_cp_s hc0
  replace hf := ck_r hf
  have hc02 := ck_c hf
  have hc2 := z_cp_s hc02
  replace hf := ck_r hf
  refine va_copyi hx hb (by rw [hml]; exact hl.1.symm) hown (hts _ mwX8_copy_2) (hts _ mwX8_copy_3) (hts _ mwX8_copy_4) (hts _ mwX8_copy_5) hK hP hD hS 8 2 1 1 rfl rfl rfl rfl rfl hc.1 hc2.1 hc.2.1 hc.2.2 hc2.2.2 (fun _ _ => rfl) (Nat.le_of_ble_eq_true rfl) (Nat.le_of_ble_eq_true rfl) dX8_copy_27 (fun H locs hP hD hS => ?_)
  obtain ⟨w2, ez⟩ : ∃ y : (Int → Int), y = (z_cpy v_p1_friends v_p0_friends (0 : Int) (0 : Int) (7 : Int)) := ⟨_, rfl⟩
  have hP : va_P D vwCl [(a_p0, .inr (8, [.ref a_p0_pieces, .ref a_p0_friends, .ref a_p0_spoons, .ref a_p0_eaten, .ref a_p0_seen, .int (Int32.ofInt i_p0_seenDays), .int (Int32.ofInt i_p0_bone), .int (Int32.ofInt i_p0_king), .int (Int32.ofInt i_p0_days)])), (a_p0_pieces, .inl (G 1, 7, .inl (zA w1))), (a_p0_friends, .inl (G 1, 7, .inl (zA w2))), (a_p0_spoons, .inl (G 1, 7, .inl (zA v_p0_spoons))), (a_p0_eaten, .inl (G 1, 7, .inl (zA v_p0_eaten))), (a_p0_seen, .inl (G 1, 6, .inl (zA v_p0_seen))), (a_p1, .inr (8, [.ref a_p1_pieces, .ref a_p1_friends, .ref a_p1_spoons, .ref a_p1_eaten, .ref a_p1_seen, .int (Int32.ofInt i_p1_seenDays), .int (Int32.ofInt i_p1_bone), .int (Int32.ofInt i_p1_king), .int (Int32.ofInt i_p1_days)])), (a_p1_pieces, .inl (G 1, 7, .inl (zA v_p1_pieces))), (a_p1_friends, .inl (G 1, 7, .inl (zA v_p1_friends))), (a_p1_spoons, .inl (G 1, 7, .inl (zA v_p1_spoons))), (a_p1_eaten, .inl (G 1, 7, .inl (zA v_p1_eaten))), (a_p1_seen, .inl (G 1, 6, .inl (zA v_p1_seen)))] H := by rw [ez, ← z_cpy_e hc0 hc02]; exact hP
  have hD : va_D A [(a_p0, .inr (8, [.ref a_p0_pieces, .ref a_p0_friends, .ref a_p0_spoons, .ref a_p0_eaten, .ref a_p0_seen, .int (Int32.ofInt i_p0_seenDays), .int (Int32.ofInt i_p0_bone), .int (Int32.ofInt i_p0_king), .int (Int32.ofInt i_p0_days)])), (a_p0_pieces, .inl (G 1, 7, .inl (zA w1))), (a_p0_friends, .inl (G 1, 7, .inl (zA w2))), (a_p0_spoons, .inl (G 1, 7, .inl (zA v_p0_spoons))), (a_p0_eaten, .inl (G 1, 7, .inl (zA v_p0_eaten))), (a_p0_seen, .inl (G 1, 6, .inl (zA v_p0_seen))), (a_p1, .inr (8, [.ref a_p1_pieces, .ref a_p1_friends, .ref a_p1_spoons, .ref a_p1_eaten, .ref a_p1_seen, .int (Int32.ofInt i_p1_seenDays), .int (Int32.ofInt i_p1_bone), .int (Int32.ofInt i_p1_king), .int (Int32.ofInt i_p1_days)])), (a_p1_pieces, .inl (G 1, 7, .inl (zA v_p1_pieces))), (a_p1_friends, .inl (G 1, 7, .inl (zA v_p1_friends))), (a_p1_spoons, .inl (G 1, 7, .inl (zA v_p1_spoons))), (a_p1_eaten, .inl (G 1, 7, .inl (zA v_p1_eaten))), (a_p1_seen, .inl (G 1, 6, .inl (zA v_p1_seen)))] := by rw [ez, ← z_cpy_e hc0 hc02]; exact hD
  replace hf := bnd_s hf ez
  clear ez hc hc2 hc0 hc02
  refine lv_aload_n hx hb dX8_copy_30 rfl (lv_at hl 1 rfl) ?_
  refine va_get (D := D) (ci := 8) (v := .ref a_p1_spoons) (C := RX8) (T := TX8) (N := 9) hx hb hts inX8_copy_X8 hown hK hP 6 rfl rfl 2 (by decide) (hts _ mwX8_copy_7) (fun _ h9 => h9) rfl dX8_copy_31 ?_
  refine lv_iconst (v := Int32.ofInt (0 : Int)) hx hb dX8_copy_34 (by decide) ?_
  refine lv_aload_n hx hb dX8_copy_35 rfl (lv_at hl 0 rfl) ?_
  refine va_get (D := D) (ci := 8) (v := .ref a_p0_spoons) (C := RX8) (T := TX8) (N := 9) hx hb hts inX8_copy_X8 hown hK hP 0 rfl rfl 2 (by decide) (hts _ mwX8_copy_7) (fun _ h9 => h9) rfl dX8_copy_36 ?_
  refine lv_iconst (v := Int32.ofInt (0 : Int)) hx hb dX8_copy_39 (by decide) ?_
  refine lv_bipush (v := Int32.ofInt (7 : Int)) hx hb dX8_copy_40 (by decide) ?_
  have hc0 := ck_c hf
  have hc := z_cp_s hc0
  replace hf := ck_r hf
  have hc02 := ck_c hf
  have hc2 := z_cp_s hc02
  replace hf := ck_r hf
  refine va_copyi hx hb (by rw [hml]; exact hl.1.symm) hown (hts _ mwX8_copy_2) (hts _ mwX8_copy_3) (hts _ mwX8_copy_4) (hts _ mwX8_copy_5) hK hP hD hS 9 3 1 1 rfl rfl rfl rfl rfl hc.1 hc2.1 hc.2.1 hc.2.2 hc2.2.2 (fun _ _ => rfl) (Nat.le_of_ble_eq_true rfl) (Nat.le_of_ble_eq_true rfl) dX8_copy_42 (fun H locs hP hD hS => ?_)
  obtain ⟨w3, ez⟩ : ∃ y : (Int → Int), y = (z_cpy v_p1_spoons v_p0_spoons (0 : Int) (0 : Int) (7 : Int)) := ⟨_, rfl⟩
  have hP : va_P D vwCl [(a_p0, .inr (8, [.ref a_p0_pieces, .ref a_p0_friends, .ref a_p0_spoons, .ref a_p0_eaten, .ref a_p0_seen, .int (Int32.ofInt i_p0_seenDays), .int (Int32.ofInt i_p0_bone), .int (Int32.ofInt i_p0_king), .int (Int32.ofInt i_p0_days)])), (a_p0_pieces, .inl (G 1, 7, .inl (zA w1))), (a_p0_friends, .inl (G 1, 7, .inl (zA w2))), (a_p0_spoons, .inl (G 1, 7, .inl (zA w3))), (a_p0_eaten, .inl (G 1, 7, .inl (zA v_p0_eaten))), (a_p0_seen, .inl (G 1, 6, .inl (zA v_p0_seen))), (a_p1, .inr (8, [.ref a_p1_pieces, .ref a_p1_friends, .ref a_p1_spoons, .ref a_p1_eaten, .ref a_p1_seen, .int (Int32.ofInt i_p1_seenDays), .int (Int32.ofInt i_p1_bone), .int (Int32.ofInt i_p1_king), .int (Int32.ofInt i_p1_days)])), (a_p1_pieces, .inl (G 1, 7, .inl (zA v_p1_pieces))), (a_p1_friends, .inl (G 1, 7, .inl (zA v_p1_friends))), (a_p1_spoons, .inl (G 1, 7, .inl (zA v_p1_spoons))), (a_p1_eaten, .inl (G 1, 7, .inl (zA v_p1_eaten))), (a_p1_seen, .inl (G 1, 6, .inl (zA v_p1_seen)))] H := by rw [ez, ← z_cpy_e hc0 hc02]; exact hP
  have hD : va_D A [(a_p0, .inr (8, [.ref a_p0_pieces, .ref a_p0_friends, .ref a_p0_spoons, .ref a_p0_eaten, .ref a_p0_seen, .int (Int32.ofInt i_p0_seenDays), .int (Int32.ofInt i_p0_bone), .int (Int32.ofInt i_p0_king), .int (Int32.ofInt i_p0_days)])), (a_p0_pieces, .inl (G 1, 7, .inl (zA w1))), (a_p0_friends, .inl (G 1, 7, .inl (zA w2))), (a_p0_spoons, .inl (G 1, 7, .inl (zA w3))), (a_p0_eaten, .inl (G 1, 7, .inl (zA v_p0_eaten))), (a_p0_seen, .inl (G 1, 6, .inl (zA v_p0_seen))), (a_p1, .inr (8, [.ref a_p1_pieces, .ref a_p1_friends, .ref a_p1_spoons, .ref a_p1_eaten, .ref a_p1_seen, .int (Int32.ofInt i_p1_seenDays), .int (Int32.ofInt i_p1_bone), .int (Int32.ofInt i_p1_king), .int (Int32.ofInt i_p1_days)])), (a_p1_pieces, .inl (G 1, 7, .inl (zA v_p1_pieces))), (a_p1_friends, .inl (G 1, 7, .inl (zA v_p1_friends))), (a_p1_spoons, .inl (G 1, 7, .inl (zA v_p1_spoons))), (a_p1_eaten, .inl (G 1, 7, .inl (zA v_p1_eaten))), (a_p1_seen, .inl (G 1, 6, .inl (zA v_p1_seen)))] := by rw [ez, ← z_cpy_e hc0 hc02]; exact hD
  replace hf := bnd_s hf ez
  clear ez hc hc2 hc0 hc02
  refine lv_aload_n hx hb dX8_copy_45 rfl (lv_at hl 1 rfl) ?_
  refine va_get (D := D) (ci := 8) (v := .ref a_p1_eaten) (C := RX8) (T := TX8) (N := 9) hx hb hts inX8_copy_X8 hown hK hP 6 rfl rfl 3 (by decide) (hts _ mwX8_copy_8) (fun _ h9 => h9) rfl dX8_copy_46 ?_
  refine lv_iconst (v := Int32.ofInt (0 : Int)) hx hb dX8_copy_49 (by decide) ?_
  refine lv_aload_n hx hb dX8_copy_50 rfl (lv_at hl 0 rfl) ?_
  refine va_get (D := D) (ci := 8) (v := .ref a_p0_eaten) (C := RX8) (T := TX8) (N := 9) hx hb hts inX8_copy_X8 hown hK hP 0 rfl rfl 3 (by decide) (hts _ mwX8_copy_8) (fun _ h9 => h9) rfl dX8_copy_51 ?_
  refine lv_iconst (v := Int32.ofInt (0 : Int)) hx hb dX8_copy_54 (by decide) ?_
  refine lv_bipush (v := Int32.ofInt (7 : Int)) hx hb dX8_copy_55 (by decide) ?_
  have hc0 := ck_c hf
  have hc := z_cp_s hc0
  replace hf := ck_r hf
  have hc02 := ck_c hf
  have hc2 := z_cp_s hc02
  replace hf := ck_r hf
  refine va_copyi hx hb (by rw [hml]; exact hl.1.symm) hown (hts _ mwX8_copy_2) (hts _ mwX8_copy_3) (hts _ mwX8_copy_4) (hts _ mwX8_copy_5) hK hP hD hS 10 4 1 1 rfl rfl rfl rfl rfl hc.1 hc2.1 hc.2.1 hc.2.2 hc2.2.2 (fun _ _ => rfl) (Nat.le_of_ble_eq_true rfl) (Nat.le_of_ble_eq_true rfl) dX8_copy_57 (fun H locs hP hD hS => ?_)
  obtain ⟨w4, ez⟩ : ∃ y : (Int → Int), y = (z_cpy v_p1_eaten v_p0_eaten (0 : Int) (0 : Int) (7 : Int)) := ⟨_, rfl⟩
  have hP : va_P D vwCl [(a_p0, .inr (8, [.ref a_p0_pieces, .ref a_p0_friends, .ref a_p0_spoons, .ref a_p0_eaten, .ref a_p0_seen, .int (Int32.ofInt i_p0_seenDays), .int (Int32.ofInt i_p0_bone), .int (Int32.ofInt i_p0_king), .int (Int32.ofInt i_p0_days)])), (a_p0_pieces, .inl (G 1, 7, .inl (zA w1))), (a_p0_friends, .inl (G 1, 7, .inl (zA w2))), (a_p0_spoons, .inl (G 1, 7, .inl (zA w3))), (a_p0_eaten, .inl (G 1, 7, .inl (zA w4))), (a_p0_seen, .inl (G 1, 6, .inl (zA v_p0_seen))), (a_p1, .inr (8, [.ref a_p1_pieces, .ref a_p1_friends, .ref a_p1_spoons, .ref a_p1_eaten, .ref a_p1_seen, .int (Int32.ofInt i_p1_seenDays), .int (Int32.ofInt i_p1_bone), .int (Int32.ofInt i_p1_king), .int (Int32.ofInt i_p1_days)])), (a_p1_pieces, .inl (G 1, 7, .inl (zA v_p1_pieces))), (a_p1_friends, .inl (G 1, 7, .inl (zA v_p1_friends))), (a_p1_spoons, .inl (G 1, 7, .inl (zA v_p1_spoons))), (a_p1_eaten, .inl (G 1, 7, .inl (zA v_p1_eaten))), (a_p1_seen, .inl (G 1, 6, .inl (zA v_p1_seen)))] H := by rw [ez, ← z_cpy_e hc0 hc02]; exact hP
  have hD : va_D A [(a_p0, .inr (8, [.ref a_p0_pieces, .ref a_p0_friends, .ref a_p0_spoons, .ref a_p0_eaten, .ref a_p0_seen, .int (Int32.ofInt i_p0_seenDays), .int (Int32.ofInt i_p0_bone), .int (Int32.ofInt i_p0_king), .int (Int32.ofInt i_p0_days)])), (a_p0_pieces, .inl (G 1, 7, .inl (zA w1))), (a_p0_friends, .inl (G 1, 7, .inl (zA w2))), (a_p0_spoons, .inl (G 1, 7, .inl (zA w3))), (a_p0_eaten, .inl (G 1, 7, .inl (zA w4))), (a_p0_seen, .inl (G 1, 6, .inl (zA v_p0_seen))), (a_p1, .inr (8, [.ref a_p1_pieces, .ref a_p1_friends, .ref a_p1_spoons, .ref a_p1_eaten, .ref a_p1_seen, .int (Int32.ofInt i_p1_seenDays), .int (Int32.ofInt i_p1_bone), .int (Int32.ofInt i_p1_king), .int (Int32.ofInt i_p1_days)])), (a_p1_pieces, .inl (G 1, 7, .inl (zA v_p1_pieces))), (a_p1_friends, .inl (G 1, 7, .inl (zA v_p1_friends))), (a_p1_spoons, .inl (G 1, 7, .inl (zA v_p1_spoons))), (a_p1_eaten, .inl (G 1, 7, .inl (zA v_p1_eaten))), (a_p1_seen, .inl (G 1, 6, .inl (zA v_p1_seen)))] := by rw [ez, ← z_cpy_e hc0 hc02]; exact hD
  replace hf := bnd_s hf ez
  clear ez hc hc2 hc0 hc02
  refine lv_aload_n hx hb dX8_copy_60 rfl (lv_at hl 1 rfl) ?_
  refine va_get (D := D) (ci := 8) (v := .ref a_p1_seen) (C := RX8) (T := TX8) (N := 9) hx hb hts inX8_copy_X8 hown hK hP 6 rfl rfl 4 (by decide) (hts _ mwX8_copy_9) (fun _ h9 => h9) rfl dX8_copy_61 ?_
  refine lv_iconst (v := Int32.ofInt (0 : Int)) hx hb dX8_copy_64 (by decide) ?_
  refine lv_aload_n hx hb dX8_copy_65 rfl (lv_at hl 0 rfl) ?_
  refine va_get (D := D) (ci := 8) (v := .ref a_p0_seen) (C := RX8) (T := TX8) (N := 9) hx hb hts inX8_copy_X8 hown hK hP 0 rfl rfl 4 (by decide) (hts _ mwX8_copy_9) (fun _ h9 => h9) rfl dX8_copy_66 ?_
  refine lv_iconst (v := Int32.ofInt (0 : Int)) hx hb dX8_copy_69 (by decide) ?_
  refine lv_bipush (v := Int32.ofInt (6 : Int)) hx hb dX8_copy_70 (by decide) ?_
  have hc0 := ck_c hf
  have hc := z_cp_s hc0
  replace hf := ck_r hf
  have hc02 := ck_c hf
  have hc2 := z_cp_s hc02
  replace hf := ck_r hf
  refine va_copyi hx hb (by rw [hml]; exact hl.1.symm) hown (hts _ mwX8_copy_2) (hts _ mwX8_copy_3) (hts _ mwX8_copy_4) (hts _ mwX8_copy_5) hK hP hD hS 11 5 1 1 rfl rfl rfl rfl rfl hc.1 hc2.1 hc.2.1 hc.2.2 hc2.2.2 (fun _ _ => rfl) (Nat.le_of_ble_eq_true rfl) (Nat.le_of_ble_eq_true rfl) dX8_copy_72 (fun H locs hP hD hS => ?_)
  obtain ⟨w5, ez⟩ : ∃ y : (Int → Int), y = (z_cpy v_p1_seen v_p0_seen (0 : Int) (0 : Int) (6 : Int)) := ⟨_, rfl⟩
  have hP : va_P D vwCl [(a_p0, .inr (8, [.ref a_p0_pieces, .ref a_p0_friends, .ref a_p0_spoons, .ref a_p0_eaten, .ref a_p0_seen, .int (Int32.ofInt i_p0_seenDays), .int (Int32.ofInt i_p0_bone), .int (Int32.ofInt i_p0_king), .int (Int32.ofInt i_p0_days)])), (a_p0_pieces, .inl (G 1, 7, .inl (zA w1))), (a_p0_friends, .inl (G 1, 7, .inl (zA w2))), (a_p0_spoons, .inl (G 1, 7, .inl (zA w3))), (a_p0_eaten, .inl (G 1, 7, .inl (zA w4))), (a_p0_seen, .inl (G 1, 6, .inl (zA w5))), (a_p1, .inr (8, [.ref a_p1_pieces, .ref a_p1_friends, .ref a_p1_spoons, .ref a_p1_eaten, .ref a_p1_seen, .int (Int32.ofInt i_p1_seenDays), .int (Int32.ofInt i_p1_bone), .int (Int32.ofInt i_p1_king), .int (Int32.ofInt i_p1_days)])), (a_p1_pieces, .inl (G 1, 7, .inl (zA v_p1_pieces))), (a_p1_friends, .inl (G 1, 7, .inl (zA v_p1_friends))), (a_p1_spoons, .inl (G 1, 7, .inl (zA v_p1_spoons))), (a_p1_eaten, .inl (G 1, 7, .inl (zA v_p1_eaten))), (a_p1_seen, .inl (G 1, 6, .inl (zA v_p1_seen)))] H := by rw [ez, ← z_cpy_e hc0 hc02]; exact hP
  have hD : va_D A [(a_p0, .inr (8, [.ref a_p0_pieces, .ref a_p0_friends, .ref a_p0_spoons, .ref a_p0_eaten, .ref a_p0_seen, .int (Int32.ofInt i_p0_seenDays), .int (Int32.ofInt i_p0_bone), .int (Int32.ofInt i_p0_king), .int (Int32.ofInt i_p0_days)])), (a_p0_pieces, .inl (G 1, 7, .inl (zA w1))), (a_p0_friends, .inl (G 1, 7, .inl (zA w2))), (a_p0_spoons, .inl (G 1, 7, .inl (zA w3))), (a_p0_eaten, .inl (G 1, 7, .inl (zA w4))), (a_p0_seen, .inl (G 1, 6, .inl (zA w5))), (a_p1, .inr (8, [.ref a_p1_pieces, .ref a_p1_friends, .ref a_p1_spoons, .ref a_p1_eaten, .ref a_p1_seen, .int (Int32.ofInt i_p1_seenDays), .int (Int32.ofInt i_p1_bone), .int (Int32.ofInt i_p1_king), .int (Int32.ofInt i_p1_days)])), (a_p1_pieces, .inl (G 1, 7, .inl (zA v_p1_pieces))), (a_p1_friends, .inl (G 1, 7, .inl (zA v_p1_friends))), (a_p1_spoons, .inl (G 1, 7, .inl (zA v_p1_spoons))), (a_p1_eaten, .inl (G 1, 7, .inl (zA v_p1_eaten))), (a_p1_seen, .inl (G 1, 6, .inl (zA v_p1_seen)))] := by rw [ez, ← z_cpy_e hc0 hc02]; exact hD
  replace hf := bnd_s hf ez
  clear ez hc hc2 hc0 hc02
  refine lv_aload_n hx hb dX8_copy_75 rfl (lv_at hl 0 rfl) ?_
  refine lv_aload_n hx hb dX8_copy_76 rfl (lv_at hl 1 rfl) ?_
  refine va_get (D := D) (ci := 8) (v := .int (Int32.ofInt i_p1_seenDays)) (C := RX8) (T := TX8) (N := 9) hx hb hts inX8_copy_X8 hown hK hP 6 rfl rfl 5 (by decide) (hts _ mwX8_copy_10) (fun _ h9 => h9) rfl dX8_copy_77 ?_
  refine z_topi (fun z6 ez => ?_)
  replace hf := bnd_s hf ez
  clear ez
  refine va_put (D := D) (ci := 8) (v := .int (Int32.ofInt z6)) (ty := .int) (C := RX8) (T := TX8) (N := 9) hx hb hts inX8_copy_X8 tyX8 tyX8_ok nmX8 hown hK hP hD hS 0 rfl rfl 5 (by decide) (hts _ mwX8_copy_10) (fun _ h9 => h9) rfl (by decide +kernel) rfl rfl (Nat.le_of_ble_eq_true rfl) dX8_copy_80 (fun H locs hP hD hS => ?_)
  have hP : va_P D vwCl [(a_p0, .inr (8, [.ref a_p0_pieces, .ref a_p0_friends, .ref a_p0_spoons, .ref a_p0_eaten, .ref a_p0_seen, .int (Int32.ofInt z6), .int (Int32.ofInt i_p0_bone), .int (Int32.ofInt i_p0_king), .int (Int32.ofInt i_p0_days)])), (a_p0_pieces, .inl (G 1, 7, .inl (zA w1))), (a_p0_friends, .inl (G 1, 7, .inl (zA w2))), (a_p0_spoons, .inl (G 1, 7, .inl (zA w3))), (a_p0_eaten, .inl (G 1, 7, .inl (zA w4))), (a_p0_seen, .inl (G 1, 6, .inl (zA w5))), (a_p1, .inr (8, [.ref a_p1_pieces, .ref a_p1_friends, .ref a_p1_spoons, .ref a_p1_eaten, .ref a_p1_seen, .int (Int32.ofInt i_p1_seenDays), .int (Int32.ofInt i_p1_bone), .int (Int32.ofInt i_p1_king), .int (Int32.ofInt i_p1_days)])), (a_p1_pieces, .inl (G 1, 7, .inl (zA v_p1_pieces))), (a_p1_friends, .inl (G 1, 7, .inl (zA v_p1_friends))), (a_p1_spoons, .inl (G 1, 7, .inl (zA v_p1_spoons))), (a_p1_eaten, .inl (G 1, 7, .inl (zA v_p1_eaten))), (a_p1_seen, .inl (G 1, 6, .inl (zA v_p1_seen)))] H := hP
  have hD : va_D A [(a_p0, .inr (8, [.ref a_p0_pieces, .ref a_p0_friends, .ref a_p0_spoons, .ref a_p0_eaten, .ref a_p0_seen, .int (Int32.ofInt z6), .int (Int32.ofInt i_p0_bone), .int (Int32.ofInt i_p0_king), .int (Int32.ofInt i_p0_days)])), (a_p0_pieces, .inl (G 1, 7, .inl (zA w1))), (a_p0_friends, .inl (G 1, 7, .inl (zA w2))), (a_p0_spoons, .inl (G 1, 7, .inl (zA w3))), (a_p0_eaten, .inl (G 1, 7, .inl (zA w4))), (a_p0_seen, .inl (G 1, 6, .inl (zA w5))), (a_p1, .inr (8, [.ref a_p1_pieces, .ref a_p1_friends, .ref a_p1_spoons, .ref a_p1_eaten, .ref a_p1_seen, .int (Int32.ofInt i_p1_seenDays), .int (Int32.ofInt i_p1_bone), .int (Int32.ofInt i_p1_king), .int (Int32.ofInt i_p1_days)])), (a_p1_pieces, .inl (G 1, 7, .inl (zA v_p1_pieces))), (a_p1_friends, .inl (G 1, 7, .inl (zA v_p1_friends))), (a_p1_spoons, .inl (G 1, 7, .inl (zA v_p1_spoons))), (a_p1_eaten, .inl (G 1, 7, .inl (zA v_p1_eaten))), (a_p1_seen, .inl (G 1, 6, .inl (zA v_p1_seen)))] := hD
  refine lv_aload_n hx hb dX8_copy_83 rfl (lv_at hl 0 rfl) ?_
  refine lv_aload_n hx hb dX8_copy_84 rfl (lv_at hl 1 rfl) ?_
  refine va_get (D := D) (ci := 8) (v := .int (Int32.ofInt i_p1_bone)) (C := RX8) (T := TX8) (N := 9) hx hb hts inX8_copy_X8 hown hK hP 6 rfl rfl 6 (by decide) (hts _ mwX8_copy_11) (fun _ h9 => h9) rfl dX8_copy_85 ?_
  refine z_topi (fun z7 ez => ?_)
  replace hf := bnd_s hf ez
  clear ez
  refine va_put (D := D) (ci := 8) (v := .int (Int32.ofInt z7)) (ty := .int) (C := RX8) (T := TX8) (N := 9) hx hb hts inX8_copy_X8 tyX8 tyX8_ok nmX8 hown hK hP hD hS 0 rfl rfl 6 (by decide) (hts _ mwX8_copy_11) (fun _ h9 => h9) rfl (by decide +kernel) rfl rfl (Nat.le_of_ble_eq_true rfl) dX8_copy_88 (fun H locs hP hD hS => ?_)
  have hP : va_P D vwCl [(a_p0, .inr (8, [.ref a_p0_pieces, .ref a_p0_friends, .ref a_p0_spoons, .ref a_p0_eaten, .ref a_p0_seen, .int (Int32.ofInt z6), .int (Int32.ofInt z7), .int (Int32.ofInt i_p0_king), .int (Int32.ofInt i_p0_days)])), (a_p0_pieces, .inl (G 1, 7, .inl (zA w1))), (a_p0_friends, .inl (G 1, 7, .inl (zA w2))), (a_p0_spoons, .inl (G 1, 7, .inl (zA w3))), (a_p0_eaten, .inl (G 1, 7, .inl (zA w4))), (a_p0_seen, .inl (G 1, 6, .inl (zA w5))), (a_p1, .inr (8, [.ref a_p1_pieces, .ref a_p1_friends, .ref a_p1_spoons, .ref a_p1_eaten, .ref a_p1_seen, .int (Int32.ofInt i_p1_seenDays), .int (Int32.ofInt i_p1_bone), .int (Int32.ofInt i_p1_king), .int (Int32.ofInt i_p1_days)])), (a_p1_pieces, .inl (G 1, 7, .inl (zA v_p1_pieces))), (a_p1_friends, .inl (G 1, 7, .inl (zA v_p1_friends))), (a_p1_spoons, .inl (G 1, 7, .inl (zA v_p1_spoons))), (a_p1_eaten, .inl (G 1, 7, .inl (zA v_p1_eaten))), (a_p1_seen, .inl (G 1, 6, .inl (zA v_p1_seen)))] H := hP
  have hD : va_D A [(a_p0, .inr (8, [.ref a_p0_pieces, .ref a_p0_friends, .ref a_p0_spoons, .ref a_p0_eaten, .ref a_p0_seen, .int (Int32.ofInt z6), .int (Int32.ofInt z7), .int (Int32.ofInt i_p0_king), .int (Int32.ofInt i_p0_days)])), (a_p0_pieces, .inl (G 1, 7, .inl (zA w1))), (a_p0_friends, .inl (G 1, 7, .inl (zA w2))), (a_p0_spoons, .inl (G 1, 7, .inl (zA w3))), (a_p0_eaten, .inl (G 1, 7, .inl (zA w4))), (a_p0_seen, .inl (G 1, 6, .inl (zA w5))), (a_p1, .inr (8, [.ref a_p1_pieces, .ref a_p1_friends, .ref a_p1_spoons, .ref a_p1_eaten, .ref a_p1_seen, .int (Int32.ofInt i_p1_seenDays), .int (Int32.ofInt i_p1_bone), .int (Int32.ofInt i_p1_king), .int (Int32.ofInt i_p1_days)])), (a_p1_pieces, .inl (G 1, 7, .inl (zA v_p1_pieces))), (a_p1_friends, .inl (G 1, 7, .inl (zA v_p1_friends))), (a_p1_spoons, .inl (G 1, 7, .inl (zA v_p1_spoons))), (a_p1_eaten, .inl (G 1, 7, .inl (zA v_p1_eaten))), (a_p1_seen, .inl (G 1, 6, .inl (zA v_p1_seen)))] := hD
  refine lv_aload_n hx hb dX8_copy_91 rfl (lv_at hl 0 rfl) ?_
  refine lv_aload_n hx hb dX8_copy_92 rfl (lv_at hl 1 rfl) ?_
  refine va_get (D := D) (ci := 8) (v := .int (Int32.ofInt i_p1_king)) (C := RX8) (T := TX8) (N := 9) hx hb hts inX8_copy_X8 hown hK hP 6 rfl rfl 7 (by decide) (hts _ mwX8_copy_12) (fun _ h9 => h9) rfl dX8_copy_93 ?_
  refine z_topi (fun z8 ez => ?_)
  replace hf := bnd_s hf ez
  clear ez
  refine va_put (D := D) (ci := 8) (v := .int (Int32.ofInt z8)) (ty := .int) (C := RX8) (T := TX8) (N := 9) hx hb hts inX8_copy_X8 tyX8 tyX8_ok nmX8 hown hK hP hD hS 0 rfl rfl 7 (by decide) (hts _ mwX8_copy_12) (fun _ h9 => h9) rfl (by decide +kernel) rfl rfl (Nat.le_of_ble_eq_true rfl) dX8_copy_96 (fun H locs hP hD hS => ?_)
  have hP : va_P D vwCl [(a_p0, .inr (8, [.ref a_p0_pieces, .ref a_p0_friends, .ref a_p0_spoons, .ref a_p0_eaten, .ref a_p0_seen, .int (Int32.ofInt z6), .int (Int32.ofInt z7), .int (Int32.ofInt z8), .int (Int32.ofInt i_p0_days)])), (a_p0_pieces, .inl (G 1, 7, .inl (zA w1))), (a_p0_friends, .inl (G 1, 7, .inl (zA w2))), (a_p0_spoons, .inl (G 1, 7, .inl (zA w3))), (a_p0_eaten, .inl (G 1, 7, .inl (zA w4))), (a_p0_seen, .inl (G 1, 6, .inl (zA w5))), (a_p1, .inr (8, [.ref a_p1_pieces, .ref a_p1_friends, .ref a_p1_spoons, .ref a_p1_eaten, .ref a_p1_seen, .int (Int32.ofInt i_p1_seenDays), .int (Int32.ofInt i_p1_bone), .int (Int32.ofInt i_p1_king), .int (Int32.ofInt i_p1_days)])), (a_p1_pieces, .inl (G 1, 7, .inl (zA v_p1_pieces))), (a_p1_friends, .inl (G 1, 7, .inl (zA v_p1_friends))), (a_p1_spoons, .inl (G 1, 7, .inl (zA v_p1_spoons))), (a_p1_eaten, .inl (G 1, 7, .inl (zA v_p1_eaten))), (a_p1_seen, .inl (G 1, 6, .inl (zA v_p1_seen)))] H := hP
  have hD : va_D A [(a_p0, .inr (8, [.ref a_p0_pieces, .ref a_p0_friends, .ref a_p0_spoons, .ref a_p0_eaten, .ref a_p0_seen, .int (Int32.ofInt z6), .int (Int32.ofInt z7), .int (Int32.ofInt z8), .int (Int32.ofInt i_p0_days)])), (a_p0_pieces, .inl (G 1, 7, .inl (zA w1))), (a_p0_friends, .inl (G 1, 7, .inl (zA w2))), (a_p0_spoons, .inl (G 1, 7, .inl (zA w3))), (a_p0_eaten, .inl (G 1, 7, .inl (zA w4))), (a_p0_seen, .inl (G 1, 6, .inl (zA w5))), (a_p1, .inr (8, [.ref a_p1_pieces, .ref a_p1_friends, .ref a_p1_spoons, .ref a_p1_eaten, .ref a_p1_seen, .int (Int32.ofInt i_p1_seenDays), .int (Int32.ofInt i_p1_bone), .int (Int32.ofInt i_p1_king), .int (Int32.ofInt i_p1_days)])), (a_p1_pieces, .inl (G 1, 7, .inl (zA v_p1_pieces))), (a_p1_friends, .inl (G 1, 7, .inl (zA v_p1_friends))), (a_p1_spoons, .inl (G 1, 7, .inl (zA v_p1_spoons))), (a_p1_eaten, .inl (G 1, 7, .inl (zA v_p1_eaten))), (a_p1_seen, .inl (G 1, 6, .inl (zA v_p1_seen)))] := hD
  refine lv_aload_n hx hb dX8_copy_99 rfl (lv_at hl 0 rfl) ?_
  refine lv_aload_n hx hb dX8_copy_100 rfl (lv_at hl 1 rfl) ?_
  refine va_get (D := D) (ci := 8) (v := .int (Int32.ofInt i_p1_days)) (C := RX8) (T := TX8) (N := 9) hx hb hts inX8_copy_X8 hown hK hP 6 rfl rfl 8 (by decide) (hts _ mwX8_copy_13) (fun _ h9 => h9) rfl dX8_copy_101 ?_
  refine z_topi (fun z9 ez => ?_)
  replace hf := bnd_s hf ez
  clear ez
  refine va_put (D := D) (ci := 8) (v := .int (Int32.ofInt z9)) (ty := .int) (C := RX8) (T := TX8) (N := 9) hx hb hts inX8_copy_X8 tyX8 tyX8_ok nmX8 hown hK hP hD hS 0 rfl rfl 8 (by decide) (hts _ mwX8_copy_13) (fun _ h9 => h9) rfl (by decide +kernel) rfl rfl (Nat.le_of_ble_eq_true rfl) dX8_copy_104 (fun H locs hP hD hS => ?_)
  have hP : va_P D vwCl [(a_p0, .inr (8, [.ref a_p0_pieces, .ref a_p0_friends, .ref a_p0_spoons, .ref a_p0_eaten, .ref a_p0_seen, .int (Int32.ofInt z6), .int (Int32.ofInt z7), .int (Int32.ofInt z8), .int (Int32.ofInt z9)])), (a_p0_pieces, .inl (G 1, 7, .inl (zA w1))), (a_p0_friends, .inl (G 1, 7, .inl (zA w2))), (a_p0_spoons, .inl (G 1, 7, .inl (zA w3))), (a_p0_eaten, .inl (G 1, 7, .inl (zA w4))), (a_p0_seen, .inl (G 1, 6, .inl (zA w5))), (a_p1, .inr (8, [.ref a_p1_pieces, .ref a_p1_friends, .ref a_p1_spoons, .ref a_p1_eaten, .ref a_p1_seen, .int (Int32.ofInt i_p1_seenDays), .int (Int32.ofInt i_p1_bone), .int (Int32.ofInt i_p1_king), .int (Int32.ofInt i_p1_days)])), (a_p1_pieces, .inl (G 1, 7, .inl (zA v_p1_pieces))), (a_p1_friends, .inl (G 1, 7, .inl (zA v_p1_friends))), (a_p1_spoons, .inl (G 1, 7, .inl (zA v_p1_spoons))), (a_p1_eaten, .inl (G 1, 7, .inl (zA v_p1_eaten))), (a_p1_seen, .inl (G 1, 6, .inl (zA v_p1_seen)))] H := hP
  have hD : va_D A [(a_p0, .inr (8, [.ref a_p0_pieces, .ref a_p0_friends, .ref a_p0_spoons, .ref a_p0_eaten, .ref a_p0_seen, .int (Int32.ofInt z6), .int (Int32.ofInt z7), .int (Int32.ofInt z8), .int (Int32.ofInt z9)])), (a_p0_pieces, .inl (G 1, 7, .inl (zA w1))), (a_p0_friends, .inl (G 1, 7, .inl (zA w2))), (a_p0_spoons, .inl (G 1, 7, .inl (zA w3))), (a_p0_eaten, .inl (G 1, 7, .inl (zA w4))), (a_p0_seen, .inl (G 1, 6, .inl (zA w5))), (a_p1, .inr (8, [.ref a_p1_pieces, .ref a_p1_friends, .ref a_p1_spoons, .ref a_p1_eaten, .ref a_p1_seen, .int (Int32.ofInt i_p1_seenDays), .int (Int32.ofInt i_p1_bone), .int (Int32.ofInt i_p1_king), .int (Int32.ofInt i_p1_days)])), (a_p1_pieces, .inl (G 1, 7, .inl (zA v_p1_pieces))), (a_p1_friends, .inl (G 1, 7, .inl (zA v_p1_friends))), (a_p1_spoons, .inl (G 1, 7, .inl (zA v_p1_spoons))), (a_p1_eaten, .inl (G 1, 7, .inl (zA v_p1_eaten))), (a_p1_seen, .inl (G 1, 6, .inl (zA v_p1_seen)))] := hD
  obtain ⟨rfl, rfl, rfl, rfl, rfl, rfl, rfl, rfl, rfl⟩ := ou9 hf
  rw [hQ]
  exact W.vret hx hb hr (fun t ht hW => ⟨⟨(), rfl, trivial, by rw [ht]; exact hP, va_K.moved hW.alike hK, hD⟩, hS.F ht⟩) hS.2.2 dX8_copy_107

noncomputable def f_X8_setFriend (v_p0_friends : (Int → Int)) (x1 : Int) (x2 : Int) (x3 : Int) : Option ((Int → Int)) := (ck (z_r32 x3) (if x3 = (0 : Int) then (ck (z_ix x1 7) (ck (z_ix x1 7) (bnd (z_up v_p0_friends x1 (z_and (v_p0_friends x1) (z_xor (z_shl (1 : Int) x2) (-1 : Int)))) (fun (w2 : (Int → Int)) => (some w2))))) else (ck (z_ix x1 7) (ck (z_ix x1 7) (bnd (z_up v_p0_friends x1 (z_or (v_p0_friends x1) (z_shl (1 : Int) x2))) (fun (w3 : (Int → Int)) => (some w3)))))))
abbrev rm_X8_setFriend : Room := { frames := 0, cells := 0, slots := 0, locals := 0 }
theorem inX8_setFriend_X8 : ∀ w ∈ wsX80, w ∈ wsX8_setFriend := by first | exact fun w h => List.mem_cons_of_mem _ (List.mem_append_right _ h) | decide +kernel
theorem mwX8_setFriend_1 : Cond.fieldLink RX8 15 "LadleKings$State" "friends" "[I" ∈ wsX8_setFriend := by first | exact List.mem_of_getElem? (i := 1) rfl | decide +kernel
set_option maxHeartbeats 8000000 in
set_option maxRecDepth 100000 in
theorem c_X8_setFriend (l : Launch) (D : va_G) (G : Nat → ClassId) (sz : Nat) (a_p0 : Nat) (a_p0_pieces : Nat) (a_p0_friends : Nat) (a_p0_spoons : Nat) (a_p0_eaten : Nat) (a_p0_seen : Nat) (i_p0_seenDays : Int) (i_p0_bone : Int) (i_p0_king : Int) (i_p0_days : Int) (v_p0_friends : (Int → Int)) (x1 : Int) (x2 : Int) (x3 : Int) (o_v_p0_friends : (Int → Int)) (hf : f_X8_setFriend v_p0_friends x1 x2 x3 = some o_v_p0_friends) : Met l yX8_setFriend wsX8_setFriend rm_X8_setFriend (pcG D G [.ref a_p0, .int (Int32.ofInt x1), .int (Int32.ofInt x2), .int (Int32.ofInt x3)] sz [(a_p0, .inr (8, [.ref a_p0_pieces, .ref a_p0_friends, .ref a_p0_spoons, .ref a_p0_eaten, .ref a_p0_seen, .int (Int32.ofInt i_p0_seenDays), .int (Int32.ofInt i_p0_bone), .int (Int32.ofInt i_p0_king), .int (Int32.ofInt i_p0_days)])), (a_p0_friends, .inl (G 1, 7, .inl (zA v_p0_friends)))]) (qcV D G [(a_p0, .inr (8, [.ref a_p0_pieces, .ref a_p0_friends, .ref a_p0_spoons, .ref a_p0_eaten, .ref a_p0_seen, .int (Int32.ofInt i_p0_seenDays), .int (Int32.ofInt i_p0_bone), .int (Int32.ofInt i_p0_king), .int (Int32.ofInt i_p0_days)])), (a_p0_friends, .inl (G 1, 7, .inl (zA o_v_p0_friends)))] (va_A [(a_p0, .inr (8, [.ref a_p0_pieces, .ref a_p0_friends, .ref a_p0_spoons, .ref a_p0_eaten, .ref a_p0_seen, .int (Int32.ofInt i_p0_seenDays), .int (Int32.ofInt i_p0_bone), .int (Int32.ofInt i_p0_king), .int (Int32.ofInt i_p0_days)])), (a_p0_friends, .inl (G 1, 7, .inl (zA v_p0_friends)))] sz)) 0 0 (va_A [(a_p0, .inr (8, [.ref a_p0_pieces, .ref a_p0_friends, .ref a_p0_spoons, .ref a_p0_eaten, .ref a_p0_seen, .int (Int32.ofInt i_p0_seenDays), .int (Int32.ofInt i_p0_bone), .int (Int32.ofInt i_p0_king), .int (Int32.ofInt i_p0_days)])), (a_p0_friends, .inl (G 1, 7, .inl (zA v_p0_friends)))] sz) := by
  refine Met.ofW (cc := cX8_setFriend) (maxL := 4) (ret := none) (by decide) rfl ?_
  intro p e s m args below meth c s₁ B hml hv
  obtain ⟨rfl, hsz, hP, hK, hD0⟩ := hv
  have hx := B.exec
  have hb := B.bytes
  have hr := B.returns
  have hts := atoms_spec (ws := wsX8_setFriend) B.pre
  have hown : s.vm.findClass RX8 = some m.cls := findClass_of_methodNamed B.named
  have hlocks := B.notSynchronized
  subst hsz
  have hD := hD0.self (sz := s.heap.size)
  generalize hAe : va_A [(a_p0, .inr (8, [.ref a_p0_pieces, .ref a_p0_friends, .ref a_p0_spoons, .ref a_p0_eaten, .ref a_p0_seen, .int (Int32.ofInt i_p0_seenDays), .int (Int32.ofInt i_p0_bone), .int (Int32.ofInt i_p0_king), .int (Int32.ofInt i_p0_days)])), (a_p0_friends, .inl (G 1, 7, .inl (zA v_p0_friends)))] s.heap.size = A at hD ⊢
  have hA : ∀ q : Nat, s.heap.size ≤ q → A q := fun q h => by rw [← hAe]; exact Or.inr h
  clear hAe hD0
  have hS : va_S A s.heap s.heap [] := va_S.rf
  have hl := lv_entry ([.ref a_p0, .int (Int32.ofInt x1), .int (Int32.ofInt x2), .int (Int32.ofInt x3)]) (n := 4) (Nat.le_of_ble_eq_true rfl)
  rw [lg_entry_eq]
  generalize (lg_sl ([.ref a_p0, .int (Int32.ofInt x1), .int (Int32.ofInt x2), .int (Int32.ofInt x3)]) ++ List.replicate (4 - (lg_sl ([.ref a_p0, .int (Int32.ofInt x1), .int (Int32.ofInt x2), .int (Int32.ofInt x3)])).length) Slot.unset).toArray = ls at hl ⊢
  have hl : lv_has ls 4 [(0, .ref a_p0), (1, .int (Int32.ofInt x1)), (2, .int (Int32.ofInt x2)), (3, .int (Int32.ofInt x3))] := hl
  refine W_nameQ (fun Q hQ => ?_)
  obtain ⟨H, hH⟩ : ∃ H, H = s.heap := ⟨_, rfl⟩
  replace hS : va_S A s.heap H [] := by rw [hH]; exact hS
  replace hP : va_P D vwCl [(a_p0, .inr (8, [.ref a_p0_pieces, .ref a_p0_friends, .ref a_p0_spoons, .ref a_p0_eaten, .ref a_p0_seen, .int (Int32.ofInt i_p0_seenDays), .int (Int32.ofInt i_p0_bone), .int (Int32.ofInt i_p0_king), .int (Int32.ofInt i_p0_days)])), (a_p0_friends, .inl (G 1, 7, .inl (zA v_p0_friends)))] H := by rw [hH]; exact hP
  rw [← hH]
  clear hH
  unfold f_X8_setFriend at hf
  refine lv_iload_n hx hb dX8_setFriend_0 rfl (lv_at hl 3 rfl) ?_
  have hr0 := ck_c hf
  replace hf := ck_r hf
  refine lv_if_eq (tgt := 19) hx hb dX8_setFriend_1 (by decide) (fun cc => ?_) (fun cc => ?_)
  ·
    replace hf := ite_t ((z_eq0 hr0).mp cc) hf
    clear cc
    refine lv_aload_n hx hb dX8_setFriend_19 rfl (lv_at hl 0 rfl) ?_
    refine va_get (D := D) (ci := 8) (v := .ref a_p0_friends) (C := RX8) (T := TX8) (N := 9) hx hb hts inX8_setFriend_X8 hown hK hP 0 rfl rfl 1 (by decide) (hts _ mwX8_setFriend_1) (fun _ h9 => h9) rfl dX8_setFriend_20 ?_
    refine lv_iload_n hx hb dX8_setFriend_23 rfl (lv_at hl 1 rfl) ?_
    refine lv_dup2_11 hx hb dX8_setFriend_24 rfl rfl ?_
    have hc := ck_c hf
    replace hf := ck_r hf
    refine va_iald hx hb hK hP 1 1 rfl rfl (z_ix_in hc) dX8_setFriend_25 (z_ci (z_ald v_p0_friends hc) ?_)
    clear hc
    refine lv_iconst (v := Int32.ofInt (1 : Int)) hx hb dX8_setFriend_26 (by decide) ?_
    refine lv_iload_n hx hb dX8_setFriend_27 rfl (lv_at hl 2 rfl) ?_
    refine lv_ishl hx hb dX8_setFriend_28 (z_ci (z_shl_e (1 : Int) x2) ?_)
    refine lv_iconst (v := Int32.ofInt (-1 : Int)) hx hb dX8_setFriend_29 (by decide) ?_
    refine lv_ixor hx hb dX8_setFriend_30 (z_ci (z_xor_e (z_shl (1 : Int) x2) (-1 : Int)) ?_)
    refine lv_iand hx hb dX8_setFriend_31 (z_ci (z_and_e (v_p0_friends x1) (z_xor (z_shl (1 : Int) x2) (-1 : Int))) ?_)
    have hc := ck_c hf
    replace hf := ck_r hf
    refine zs_iast (wf := fun w2 => [(a_p0, .inr (8, [.ref a_p0_pieces, .ref a_p0_friends, .ref a_p0_spoons, .ref a_p0_eaten, .ref a_p0_seen, .int (Int32.ofInt i_p0_seenDays), .int (Int32.ofInt i_p0_bone), .int (Int32.ofInt i_p0_king), .int (Int32.ofInt i_p0_days)])), (a_p0_friends, .inl (G 1, 7, .inl (zA w2)))]) hx hb hK hP hD hS 1 1 rfl rfl hc dX8_setFriend_32 (fun _ => rfl) (fun w2 ez H locs hP hD hS => ?_)
    replace hf := bnd_s hf ez
    clear ez hc
    obtain rfl := ou1 hf
    rw [hQ]
    exact W.vret hx hb hr (fun t ht hW => ⟨⟨(), rfl, trivial, by rw [ht]; exact hP, va_K.moved hW.alike hK, hD⟩, hS.F ht⟩) hS.2.2 dX8_setFriend_33
  ·
    replace hf := ite_f (fun h9 => cc ((z_eq0 hr0).mpr h9)) hf
    clear cc
    refine lv_aload_n hx hb dX8_setFriend_4 rfl (lv_at hl 0 rfl) ?_
    refine va_get (D := D) (ci := 8) (v := .ref a_p0_friends) (C := RX8) (T := TX8) (N := 9) hx hb hts inX8_setFriend_X8 hown hK hP 0 rfl rfl 1 (by decide) (hts _ mwX8_setFriend_1) (fun _ h9 => h9) rfl dX8_setFriend_5 ?_
    refine lv_iload_n hx hb dX8_setFriend_8 rfl (lv_at hl 1 rfl) ?_
    refine lv_dup2_11 hx hb dX8_setFriend_9 rfl rfl ?_
    have hc := ck_c hf
    replace hf := ck_r hf
    refine va_iald hx hb hK hP 1 1 rfl rfl (z_ix_in hc) dX8_setFriend_10 (z_ci (z_ald v_p0_friends hc) ?_)
    clear hc
    refine lv_iconst (v := Int32.ofInt (1 : Int)) hx hb dX8_setFriend_11 (by decide) ?_
    refine lv_iload_n hx hb dX8_setFriend_12 rfl (lv_at hl 2 rfl) ?_
    refine lv_ishl hx hb dX8_setFriend_13 (z_ci (z_shl_e (1 : Int) x2) ?_)
    refine lv_ior hx hb dX8_setFriend_14 (z_ci (z_or_e (v_p0_friends x1) (z_shl (1 : Int) x2)) ?_)
    have hc := ck_c hf
    replace hf := ck_r hf
    refine zs_iast (wf := fun w3 => [(a_p0, .inr (8, [.ref a_p0_pieces, .ref a_p0_friends, .ref a_p0_spoons, .ref a_p0_eaten, .ref a_p0_seen, .int (Int32.ofInt i_p0_seenDays), .int (Int32.ofInt i_p0_bone), .int (Int32.ofInt i_p0_king), .int (Int32.ofInt i_p0_days)])), (a_p0_friends, .inl (G 1, 7, .inl (zA w3)))]) hx hb hK hP hD hS 1 1 rfl rfl hc dX8_setFriend_15 (fun _ => rfl) (fun w3 ez H locs hP hD hS => ?_)
    replace hf := bnd_s hf ez
    clear ez hc
    refine lv_goto (tgt := 33) hx hb dX8_setFriend_16 (by decide) ?_
    obtain rfl := ou1 hf
    rw [hQ]
    exact W.vret hx hb hr (fun t ht hW => ⟨⟨(), rfl, trivial, by rw [ht]; exact hP, va_K.moved hW.alike hK, hD⟩, hS.F ht⟩) hS.2.2 dX8_setFriend_33

noncomputable def B_X9_append_18 (x1 : Int) (again18 : Int → Int → (Int → Int) → Option (Int × Int × (Int → Int))) (z3 : Int) (z4 : Int) (w5 : (Int → Int)) : Option (Int × Int × (Int → Int)) := (ck (z_r32 z3) (if z3 < (0 : Int) then (some ((1 : Int), z4, w5)) else (ck (z_ix z4 320) (bnd (z_up w5 z4 (z_i2b (z_i2b (w_shr x1 z3)))) (fun (w8 : (Int → Int)) => (bnd (z4 + (1 : Int)) (fun (z9 : Int) => (bnd (z3 + (-8 : Int)) (fun (z10 : Int) => (again18 z10 z9 w8))))))))))
noncomputable def f_X9_append (i_p0_length : Int) (v_p0_bytes : (Int → Int)) (x1 : Int) : Option (Int × Int × (Int → Int)) := (ck (z_r32 (i_p0_length + (8 : Int))) (if (i_p0_length + (8 : Int)) ≤ (320 : Int) then (bnd (56 : Int) (fun (z2 : Int) => (lq3 (B_X9_append_18 x1) 1000 z2 i_p0_length v_p0_bytes))) else (some ((0 : Int), i_p0_length, v_p0_bytes))))
abbrev rm_X9_append : Room := { frames := 0, cells := 0, slots := 0, locals := 0 }
theorem inX9_append_X9 : ∀ w ∈ wsX90, w ∈ wsX9_append := by first | exact fun w h => List.mem_cons_of_mem _ (List.mem_append_right _ h) | decide +kernel
theorem mwX9_append_1 : Cond.fieldLink RX9 15 "LadleKings$Tape" "length" "I" ∈ wsX9_append := by first | exact List.mem_of_getElem? (i := 1) rfl | decide +kernel
theorem mwX9_append_2 : Cond.fieldLink RX9 9 "LadleKings$Tape" "bytes" "[B" ∈ wsX9_append := by first | exact List.mem_of_getElem? (i := 2) rfl | decide +kernel
set_option maxHeartbeats 8000000 in
set_option maxRecDepth 100000 in
theorem c_X9_append (l : Launch) (D : va_G) (G : Nat → ClassId) (sz : Nat) (a_p0 : Nat) (a_p0_bytes : Nat) (i_p0_length : Int) (i_p0_at : Int) (i_p0_token : Int) (i_p0_start : Int) (i_p0_value : Int) (v_p0_bytes : (Int → Int)) (x1 : Int) (r : Int) (o_i_p0_length : Int) (o_v_p0_bytes : (Int → Int)) (hf : f_X9_append i_p0_length v_p0_bytes x1 = some (r, o_i_p0_length, o_v_p0_bytes)) : Met l yX9_append wsX9_append rm_X9_append (pcG D G [.ref a_p0, .long (Int64.ofInt x1)] sz [(a_p0, .inr (9, [.ref a_p0_bytes, .int (Int32.ofInt i_p0_length), .int (Int32.ofInt i_p0_at), .int (Int32.ofInt i_p0_token), .int (Int32.ofInt i_p0_start), .int (Int32.ofInt i_p0_value)])), (a_p0_bytes, .inl (G 0, 320, .inl (zA v_p0_bytes)))]) (qcI D G (Int32.ofInt r) [(a_p0, .inr (9, [.ref a_p0_bytes, .int (Int32.ofInt o_i_p0_length), .int (Int32.ofInt i_p0_at), .int (Int32.ofInt i_p0_token), .int (Int32.ofInt i_p0_start), .int (Int32.ofInt i_p0_value)])), (a_p0_bytes, .inl (G 0, 320, .inl (zA o_v_p0_bytes)))] (va_A [(a_p0, .inr (9, [.ref a_p0_bytes, .int (Int32.ofInt i_p0_length), .int (Int32.ofInt i_p0_at), .int (Int32.ofInt i_p0_token), .int (Int32.ofInt i_p0_start), .int (Int32.ofInt i_p0_value)])), (a_p0_bytes, .inl (G 0, 320, .inl (zA v_p0_bytes)))] sz)) 0 0 (va_A [(a_p0, .inr (9, [.ref a_p0_bytes, .int (Int32.ofInt i_p0_length), .int (Int32.ofInt i_p0_at), .int (Int32.ofInt i_p0_token), .int (Int32.ofInt i_p0_start), .int (Int32.ofInt i_p0_value)])), (a_p0_bytes, .inl (G 0, 320, .inl (zA v_p0_bytes)))] sz) := by
  refine Met.ofW (cc := cX9_append) (maxL := 4) (ret := (some .boolean)) (by decide) rfl ?_
  intro p e s m args below meth c s₁ B hml hv
  obtain ⟨rfl, hsz, hP, hK, hD0⟩ := hv
  have hx := B.exec
  have hb := B.bytes
  have hr := B.returns
  have hts := atoms_spec (ws := wsX9_append) B.pre
  have hown : s.vm.findClass RX9 = some m.cls := findClass_of_methodNamed B.named
  have hlocks := B.notSynchronized
  subst hsz
  have hD := hD0.self (sz := s.heap.size)
  generalize hAe : va_A [(a_p0, .inr (9, [.ref a_p0_bytes, .int (Int32.ofInt i_p0_length), .int (Int32.ofInt i_p0_at), .int (Int32.ofInt i_p0_token), .int (Int32.ofInt i_p0_start), .int (Int32.ofInt i_p0_value)])), (a_p0_bytes, .inl (G 0, 320, .inl (zA v_p0_bytes)))] s.heap.size = A at hD ⊢
  have hA : ∀ q : Nat, s.heap.size ≤ q → A q := fun q h => by rw [← hAe]; exact Or.inr h
  clear hAe hD0
  have hS : va_S A s.heap s.heap [] := va_S.rf
  have hl := lv_entry ([.ref a_p0, .long (Int64.ofInt x1)]) (n := 4) (Nat.le_of_ble_eq_true rfl)
  rw [lg_entry_eq]
  generalize (lg_sl ([.ref a_p0, .long (Int64.ofInt x1)]) ++ List.replicate (4 - (lg_sl ([.ref a_p0, .long (Int64.ofInt x1)])).length) Slot.unset).toArray = ls at hl ⊢
  have hl : lv_has ls 4 [(0, .ref a_p0), (1, .long (Int64.ofInt x1))] := hl
  refine W_nameQ (fun Q hQ => ?_)
  obtain ⟨H, hH⟩ : ∃ H, H = s.heap := ⟨_, rfl⟩
  replace hS : va_S A s.heap H [] := by rw [hH]; exact hS
  replace hP : va_P D vwCl [(a_p0, .inr (9, [.ref a_p0_bytes, .int (Int32.ofInt i_p0_length), .int (Int32.ofInt i_p0_at), .int (Int32.ofInt i_p0_token), .int (Int32.ofInt i_p0_start), .int (Int32.ofInt i_p0_value)])), (a_p0_bytes, .inl (G 0, 320, .inl (zA v_p0_bytes)))] H := by rw [hH]; exact hP
  rw [← hH]
  clear hH
  unfold f_X9_append at hf
  refine lv_aload_n hx hb dX9_append_0 rfl (lv_at hl 0 rfl) ?_
  refine va_get (D := D) (ci := 9) (v := .int (Int32.ofInt i_p0_length)) (C := RX9) (T := TX9) (N := 6) hx hb hts inX9_append_X9 hown hK hP 0 rfl rfl 1 (by decide) (hts _ mwX9_append_1) (fun _ h9 => h9) rfl dX9_append_1 ?_
  refine lv_bipush (v := Int32.ofInt (8 : Int)) hx hb dX9_append_4 (by decide) ?_
  refine lv_iadd hx hb dX9_append_6 (z_ci (Int32.ofInt_add i_p0_length (8 : Int)) ?_)
  refine lv_sipush (v := Int32.ofInt (320 : Int)) hx hb dX9_append_7 (by decide) ?_
  have hr0 := ck_c hf
  replace hf := ck_r hf
  refine lv_icmp_le (tgt := 15) hx hb dX9_append_10 (by decide) (fun cc => ?_) (fun cc => ?_)
  ·
    replace hf := ite_t ((z_le hr0 (by decide)).mp cc) hf
    clear cc
    refine lv_bipush (v := Int32.ofInt (56 : Int)) hx hb dX9_append_15 (by decide) ?_
    refine z_topi (fun z2 ez => ?_)
    replace hf := bnd_s hf ez
    clear ez
    refine lv_istore_n (lv' := [(3, .int (Int32.ofInt z2)), (0, .ref a_p0), (1, .long (Int64.ofInt x1))]) hx hb dX9_append_17 rfl hl (by decide) rfl (fun ls hl => ?_)
    have hq := lq3_i hf
    clear hf
    obtain ⟨B6, eB6, NB6, hf⟩ := hq
    have hB6 : ∀ (n : Nat) (z3 : Int) (z4 : Int) (w5 : (Int → Int)) (ls : Array Slot) (H : Heap) (locs : List Loc), lv_has ls 4 [(3, .int (Int32.ofInt z3)), (0, .ref a_p0), (1, .long (Int64.ofInt x1))] → va_P D vwCl [(a_p0, .inr (9, [.ref a_p0_bytes, .int (Int32.ofInt z4), .int (Int32.ofInt i_p0_at), .int (Int32.ofInt i_p0_token), .int (Int32.ofInt i_p0_start), .int (Int32.ofInt i_p0_value)])), (a_p0_bytes, .inl (G 0, 320, .inl (zA w5)))] H → va_D A [(a_p0, .inr (9, [.ref a_p0_bytes, .int (Int32.ofInt z4), .int (Int32.ofInt i_p0_at), .int (Int32.ofInt i_p0_token), .int (Int32.ofInt i_p0_start), .int (Int32.ofInt i_p0_value)])), (a_p0_bytes, .inl (G 0, 320, .inl (zA w5)))] → va_S A s.heap H locs → lq3 B6 n z3 z4 w5 = some (r, o_i_p0_length, o_v_p0_bytes) → W p l e rm_X9_append s m ([.ref a_p0, .long (Int64.ofInt x1)] : List Value).toArray below meth c H locs 0 0 Q (F0 m 18 ls []) := by
      clear hf hl hP hD hS
      intro n
      induction n with
      | zero =>
        intro z3 z4 w5 ls H locs hl hP hD hS hf
        exact (lq3_0 hf).elim
      | succ n ih18 =>
        intro z3 z4 w5 ls H locs hl hP hD hS hf
        replace hf := lq3_s eB6 hf
        unfold B_X9_append_18 at hf
        refine lv_iload_n hx hb dX9_append_18 rfl (lv_at hl 0 rfl) ?_
        have hr6 := ck_c hf
        replace hf := ck_r hf
        refine lv_if_lt (tgt := 52) hx hb dX9_append_19 (by decide) (fun cc => ?_) (fun cc => ?_)
        ·
          replace hf := ite_t ((z_lt0 hr6).mp cc) hf
          clear cc
          refine lv_iconst (v := Int32.ofInt (1 : Int)) hx hb dX9_append_52 (by decide) ?_
          obtain ⟨rfl, rfl, rfl⟩ := ou3 hf
          rw [hQ]
          exact W.zret hx hb hr rfl (fun t ht hW => ⟨⟨_, (), rfl, rfl, by rw [ht]; exact hP, va_K.moved hW.alike hK, hD⟩, hS.F ht⟩) hS.2.2 dX9_append_53
        ·
          replace hf := ite_f (fun h9 => cc ((z_lt0 hr6).mpr h9)) hf
          clear cc
          refine lv_aload_n hx hb dX9_append_22 rfl (lv_at hl 1 rfl) ?_
          refine va_get (D := D) (ci := 9) (v := .ref a_p0_bytes) (C := RX9) (T := TX9) (N := 6) hx hb hts inX9_append_X9 hown hK hP 0 rfl rfl 0 (by decide) (hts _ mwX9_append_2) (fun _ h9 => h9) rfl dX9_append_23 ?_
          refine lv_aload_n hx hb dX9_append_26 rfl (lv_at hl 1 rfl) ?_
          refine va_get (D := D) (ci := 9) (v := .int (Int32.ofInt z4)) (C := RX9) (T := TX9) (N := 6) hx hb hts inX9_append_X9 hown hK hP 0 rfl rfl 1 (by decide) (hts _ mwX9_append_1) (fun _ h9 => h9) rfl dX9_append_27 ?_
          refine lv_lload_n hx hb dX9_append_30 rfl (lv_at hl 2 rfl) ?_
          refine lv_iload_n hx hb dX9_append_31 rfl (lv_at hl 0 rfl) ?_
          refine lv_lshr (v := Int64.ofInt (w_shr x1 z3)) hx hb dX9_append_32 (w_shr_e x1 z3).symm ?_
          refine lv_l2i (v := Int32.ofInt (w_shr x1 z3)) hx hb dX9_append_33 Int64.toInt32_ofInt ?_
          refine lv_i2b (v := Int32.ofInt (z_i2b (w_shr x1 z3))) hx hb dX9_append_34 (z_i2b_e (w_shr x1 z3)).symm ?_
          have hc := ck_c hf
          replace hf := ck_r hf
          refine zs_bast (wf := fun w8 => [(a_p0, .inr (9, [.ref a_p0_bytes, .int (Int32.ofInt z4), .int (Int32.ofInt i_p0_at), .int (Int32.ofInt i_p0_token), .int (Int32.ofInt i_p0_start), .int (Int32.ofInt i_p0_value)])), (a_p0_bytes, .inl (G 0, 320, .inl (zA w8)))]) hx hb hK hP hD hS 1 0 rfl rfl hc dX9_append_35 (fun _ => rfl) (fun w8 ez H locs hP hD hS => ?_)
          replace hf := bnd_s hf ez
          clear ez hc
          refine lv_aload_n hx hb dX9_append_36 rfl (lv_at hl 1 rfl) ?_
          refine lv_dup hx hb dX9_append_37 rfl ?_
          refine va_get (D := D) (ci := 9) (v := .int (Int32.ofInt z4)) (C := RX9) (T := TX9) (N := 6) hx hb hts inX9_append_X9 hown hK hP 0 rfl rfl 1 (by decide) (hts _ mwX9_append_1) (fun _ h9 => h9) rfl dX9_append_38 ?_
          refine lv_iconst (v := Int32.ofInt (1 : Int)) hx hb dX9_append_41 (by decide) ?_
          refine lv_iadd hx hb dX9_append_42 (z_ci (Int32.ofInt_add z4 (1 : Int)) ?_)
          refine z_topi (fun z9 ez => ?_)
          replace hf := bnd_s hf ez
          clear ez
          refine va_put (D := D) (ci := 9) (v := .int (Int32.ofInt z9)) (ty := .int) (C := RX9) (T := TX9) (N := 6) hx hb hts inX9_append_X9 tyX9 tyX9_ok nmX9 hown hK hP hD hS 0 rfl rfl 1 (by decide) (hts _ mwX9_append_1) (fun _ h9 => h9) rfl (by decide +kernel) rfl rfl (Nat.le_of_ble_eq_true rfl) dX9_append_43 (fun H locs hP hD hS => ?_)
          have hP : va_P D vwCl [(a_p0, .inr (9, [.ref a_p0_bytes, .int (Int32.ofInt z9), .int (Int32.ofInt i_p0_at), .int (Int32.ofInt i_p0_token), .int (Int32.ofInt i_p0_start), .int (Int32.ofInt i_p0_value)])), (a_p0_bytes, .inl (G 0, 320, .inl (zA w8)))] H := hP
          have hD : va_D A [(a_p0, .inr (9, [.ref a_p0_bytes, .int (Int32.ofInt z9), .int (Int32.ofInt i_p0_at), .int (Int32.ofInt i_p0_token), .int (Int32.ofInt i_p0_start), .int (Int32.ofInt i_p0_value)])), (a_p0_bytes, .inl (G 0, 320, .inl (zA w8)))] := hD
          obtain ⟨z10, ez⟩ : ∃ y : Int, y = (z3 + (-8 : Int)) := ⟨_, rfl⟩
          replace hf := bnd_s hf ez
          refine lv_iinc (v := Int32.ofInt z10) (lv' := [(3, .int (Int32.ofInt z10)), (0, .ref a_p0), (1, .long (Int64.ofInt x1))]) hx hb dX9_append_46 hl (k := 0) rfl (by rw [ez]; exact (Int32.ofInt_add _ _).symm) (by decide) rfl (fun ls hl => ?_)
          clear ez
          refine lv_goto (tgt := 18) hx hb dX9_append_49 (by decide) ?_
          exact ih18 _ _ _ _ _ _ (lv_sub hl [0, 1, 2] rfl) hP hD hS hf
    exact hB6 _ _ _ _ _ _ _ (lv_sub hl [0, 1, 2] rfl) hP hD hS hf
  ·
    replace hf := ite_f (fun h9 => cc ((z_le hr0 (by decide)).mpr h9)) hf
    clear cc
    refine lv_iconst (v := Int32.ofInt (0 : Int)) hx hb dX9_append_13 (by decide) ?_
    obtain ⟨rfl, rfl, rfl⟩ := ou3 hf
    rw [hQ]
    exact W.zret hx hb hr rfl (fun t ht hW => ⟨⟨_, (), rfl, rfl, by rw [ht]; exact hP, va_K.moved hW.alike hK, hD⟩, hS.F ht⟩) hS.2.2 dX9_append_14

noncomputable def f_X9_rewind  : Option (Int) := (bnd (0 : Int) (fun (z1 : Int) => (some z1)))
abbrev rm_X9_rewind : Room := { frames := 0, cells := 0, slots := 0, locals := 0 }
theorem inX9_rewind_X9 : ∀ w ∈ wsX90, w ∈ wsX9_rewind := by first | exact fun w h => List.mem_cons_of_mem _ (List.mem_append_right _ h) | decide +kernel
theorem mwX9_rewind_1 : Cond.fieldLink RX9 19 "LadleKings$Tape" "at" "I" ∈ wsX9_rewind := by first | exact List.mem_of_getElem? (i := 1) rfl | decide +kernel
set_option maxHeartbeats 8000000 in
set_option maxRecDepth 100000 in
theorem c_X9_rewind (l : Launch) (D : va_G) (G : Nat → ClassId) (sz : Nat) (a_p0 : Nat) (a_p0_bytes : Nat) (i_p0_length : Int) (i_p0_at : Int) (i_p0_token : Int) (i_p0_start : Int) (i_p0_value : Int) (o_i_p0_at : Int) (hf : f_X9_rewind  = some o_i_p0_at) : Met l yX9_rewind wsX9_rewind rm_X9_rewind (pcG D G [.ref a_p0] sz [(a_p0, .inr (9, [.ref a_p0_bytes, .int (Int32.ofInt i_p0_length), .int (Int32.ofInt i_p0_at), .int (Int32.ofInt i_p0_token), .int (Int32.ofInt i_p0_start), .int (Int32.ofInt i_p0_value)]))]) (qcV D G [(a_p0, .inr (9, [.ref a_p0_bytes, .int (Int32.ofInt i_p0_length), .int (Int32.ofInt o_i_p0_at), .int (Int32.ofInt i_p0_token), .int (Int32.ofInt i_p0_start), .int (Int32.ofInt i_p0_value)]))] (va_A [(a_p0, .inr (9, [.ref a_p0_bytes, .int (Int32.ofInt i_p0_length), .int (Int32.ofInt i_p0_at), .int (Int32.ofInt i_p0_token), .int (Int32.ofInt i_p0_start), .int (Int32.ofInt i_p0_value)]))] sz)) 0 0 (va_A [(a_p0, .inr (9, [.ref a_p0_bytes, .int (Int32.ofInt i_p0_length), .int (Int32.ofInt i_p0_at), .int (Int32.ofInt i_p0_token), .int (Int32.ofInt i_p0_start), .int (Int32.ofInt i_p0_value)]))] sz) := by
  refine Met.ofW (cc := cX9_rewind) (maxL := 1) (ret := none) (by decide) rfl ?_
  intro p e s m args below meth c s₁ B hml hv
  obtain ⟨rfl, hsz, hP, hK, hD0⟩ := hv
  have hx := B.exec
  have hb := B.bytes
  have hr := B.returns
  have hts := atoms_spec (ws := wsX9_rewind) B.pre
  have hown : s.vm.findClass RX9 = some m.cls := findClass_of_methodNamed B.named
  have hlocks := B.notSynchronized
  subst hsz
  have hD := hD0.self (sz := s.heap.size)
  generalize hAe : va_A [(a_p0, .inr (9, [.ref a_p0_bytes, .int (Int32.ofInt i_p0_length), .int (Int32.ofInt i_p0_at), .int (Int32.ofInt i_p0_token), .int (Int32.ofInt i_p0_start), .int (Int32.ofInt i_p0_value)]))] s.heap.size = A at hD ⊢
  have hA : ∀ q : Nat, s.heap.size ≤ q → A q := fun q h => by rw [← hAe]; exact Or.inr h
  clear hAe hD0
  have hS : va_S A s.heap s.heap [] := va_S.rf
  have hl := lv_entry ([.ref a_p0]) (n := 1) (Nat.le_of_ble_eq_true rfl)
  rw [lg_entry_eq]
  generalize (lg_sl ([.ref a_p0]) ++ List.replicate (1 - (lg_sl ([.ref a_p0])).length) Slot.unset).toArray = ls at hl ⊢
  have hl : lv_has ls 1 [(0, .ref a_p0)] := hl
  refine W_nameQ (fun Q hQ => ?_)
  obtain ⟨H, hH⟩ : ∃ H, H = s.heap := ⟨_, rfl⟩
  replace hS : va_S A s.heap H [] := by rw [hH]; exact hS
  replace hP : va_P D vwCl [(a_p0, .inr (9, [.ref a_p0_bytes, .int (Int32.ofInt i_p0_length), .int (Int32.ofInt i_p0_at), .int (Int32.ofInt i_p0_token), .int (Int32.ofInt i_p0_start), .int (Int32.ofInt i_p0_value)]))] H := by rw [hH]; exact hP
  rw [← hH]
  clear hH
  unfold f_X9_rewind at hf
  refine lv_aload_n hx hb dX9_rewind_0 rfl (lv_at hl 0 rfl) ?_
  refine lv_iconst (v := Int32.ofInt (0 : Int)) hx hb dX9_rewind_1 (by decide) ?_
  refine z_topi (fun z1 ez => ?_)
  replace hf := bnd_s hf ez
  clear ez
  refine va_put (D := D) (ci := 9) (v := .int (Int32.ofInt z1)) (ty := .int) (C := RX9) (T := TX9) (N := 6) hx hb hts inX9_rewind_X9 tyX9 tyX9_ok nmX9 hown hK hP hD hS 0 rfl rfl 2 (by decide) (hts _ mwX9_rewind_1) (fun _ h9 => h9) rfl (by decide +kernel) rfl rfl (Nat.le_of_ble_eq_true rfl) dX9_rewind_2 (fun H locs hP hD hS => ?_)
  have hP : va_P D vwCl [(a_p0, .inr (9, [.ref a_p0_bytes, .int (Int32.ofInt i_p0_length), .int (Int32.ofInt z1), .int (Int32.ofInt i_p0_token), .int (Int32.ofInt i_p0_start), .int (Int32.ofInt i_p0_value)]))] H := hP
  have hD : va_D A [(a_p0, .inr (9, [.ref a_p0_bytes, .int (Int32.ofInt i_p0_length), .int (Int32.ofInt z1), .int (Int32.ofInt i_p0_token), .int (Int32.ofInt i_p0_start), .int (Int32.ofInt i_p0_value)]))] := hD
  obtain rfl := ou1 hf
  rw [hQ]
  exact W.vret hx hb hr (fun t ht hW => ⟨⟨(), rfl, trivial, by rw [ht]; exact hP, va_K.moved hW.alike hK, hD⟩, hS.F ht⟩) hS.2.2 dX9_rewind_5

noncomputable def f_X9_isLetter (x0 : Int) : Option (Int) := (ck (z_r32 x0) (if x0 < (97 : Int) then (some (0 : Int)) else (if (122 : Int) < x0 then (some (0 : Int)) else (some (1 : Int)))))
abbrev rm_X9_isLetter : Room := { frames := 0, cells := 0, slots := 0, locals := 0 }
set_option maxHeartbeats 8000000 in
set_option maxRecDepth 100000 in
theorem c_X9_isLetter (l : Launch) (D : va_G) (G : Nat → ClassId) (sz : Nat) (x0 : Int) (r : Int) (hf : f_X9_isLetter x0 = some r) : Met l yX9_isLetter wsX9_isLetter rm_X9_isLetter (pcG D G [.int (Int32.ofInt x0)] sz []) (qcI D G (Int32.ofInt r) [] (va_A [] sz)) 0 0 (va_A [] sz) := by
  refine Met.ofW (cc := cX9_isLetter) (maxL := 1) (ret := (some .boolean)) (by decide) rfl ?_
  intro p e s m args below meth c s₁ B hml hv
  obtain ⟨rfl, hsz, hP, hK, hD0⟩ := hv
  have hx := B.exec
  have hb := B.bytes
  have hr := B.returns
  have hts := atoms_spec (ws := wsX9_isLetter) B.pre
  have hown : s.vm.findClass RX9 = some m.cls := findClass_of_methodNamed B.named
  have hlocks := B.notSynchronized
  subst hsz
  have hD := hD0.self (sz := s.heap.size)
  generalize hAe : va_A [] s.heap.size = A at hD ⊢
  have hA : ∀ q : Nat, s.heap.size ≤ q → A q := fun q h => by rw [← hAe]; exact Or.inr h
  clear hAe hD0
  have hS : va_S A s.heap s.heap [] := va_S.rf
  have hl := lv_entry ([.int (Int32.ofInt x0)]) (n := 1) (Nat.le_of_ble_eq_true rfl)
  rw [lg_entry_eq]
  generalize (lg_sl ([.int (Int32.ofInt x0)]) ++ List.replicate (1 - (lg_sl ([.int (Int32.ofInt x0)])).length) Slot.unset).toArray = ls at hl ⊢
  have hl : lv_has ls 1 [(0, .int (Int32.ofInt x0))] := hl
  refine W_nameQ (fun Q hQ => ?_)
  obtain ⟨H, hH⟩ : ∃ H, H = s.heap := ⟨_, rfl⟩
  replace hS : va_S A s.heap H [] := by rw [hH]; exact hS
  replace hP : va_P D vwCl [] H := by rw [hH]; exact hP
  rw [← hH]
  clear hH
  unfold f_X9_isLetter at hf
  refine lv_iload_n hx hb dX9_isLetter_0 rfl (lv_at hl 0 rfl) ?_
  refine lv_bipush (v := Int32.ofInt (97 : Int)) hx hb dX9_isLetter_1 (by decide) ?_
  have hr0 := ck_c hf
  replace hf := ck_r hf
  refine lv_icmp_lt (tgt := 16) hx hb dX9_isLetter_3 (by decide) (fun cc => ?_) (fun cc => ?_)
  ·
    replace hf := ite_t ((z_lt hr0 (by decide)).mp cc) hf
    clear cc
    refine lv_iconst (v := Int32.ofInt (0 : Int)) hx hb dX9_isLetter_16 (by decide) ?_
    obtain rfl := ou1 hf
    rw [hQ]
    exact W.zret hx hb hr rfl (fun t ht hW => ⟨⟨_, (), rfl, rfl, by rw [ht]; exact hP, va_K.moved hW.alike hK, hD⟩, hS.F ht⟩) hS.2.2 dX9_isLetter_17
  ·
    replace hf := ite_f (fun h9 => cc ((z_lt hr0 (by decide)).mpr h9)) hf
    clear cc
    refine lv_iload_n hx hb dX9_isLetter_6 rfl (lv_at hl 0 rfl) ?_
    refine lv_bipush (v := Int32.ofInt (122 : Int)) hx hb dX9_isLetter_7 (by decide) ?_
    refine lv_icmp_gt (tgt := 16) hx hb dX9_isLetter_9 (by decide) (fun cc => ?_) (fun cc => ?_)
    ·
      replace hf := ite_t ((z_lt (by decide) hr0).mp cc) hf
      clear cc
      refine lv_iconst (v := Int32.ofInt (0 : Int)) hx hb dX9_isLetter_16 (by decide) ?_
      obtain rfl := ou1 hf
      rw [hQ]
      exact W.zret hx hb hr rfl (fun t ht hW => ⟨⟨_, (), rfl, rfl, by rw [ht]; exact hP, va_K.moved hW.alike hK, hD⟩, hS.F ht⟩) hS.2.2 dX9_isLetter_17
    ·
      replace hf := ite_f (fun h9 => cc ((z_lt (by decide) hr0).mpr h9)) hf
      clear cc
      refine lv_iconst (v := Int32.ofInt (1 : Int)) hx hb dX9_isLetter_12 (by decide) ?_
      refine lv_goto (tgt := 17) hx hb dX9_isLetter_13 (by decide) ?_
      obtain rfl := ou1 hf
      rw [hQ]
      exact W.zret hx hb hr rfl (fun t ht hW => ⟨⟨_, (), rfl, rfl, by rw [ht]; exact hP, va_K.moved hW.alike hK, hD⟩, hS.F ht⟩) hS.2.2 dX9_isLetter_17

noncomputable def B_X9_readName_0 (i_p0_length : Int) (J2 : Int → Option (Int × Int)) (v_p0_bytes : (Int → Int)) (again0 : Int → Option (Int × Int)) (z4 : Int) : Option (Int × Int) := (ck (z_r32 z4) (ck (z_r32 i_p0_length) (if i_p0_length ≤ z4 then (J2 z4) else (ck (z_ix z4 320) (bd1 (f_X9_isLetter (v_p0_bytes z4)) (fun (z8 : Int) => (ck (z_r32 z8) (if z8 = (0 : Int) then (J2 z4) else (bnd (z4 + (1 : Int)) (fun (z10 : Int) => (again0 z10)))))))))))
noncomputable def f_X9_readName (i_p0_length : Int) (i_p0_at : Int) (v_p0_bytes : (Int → Int)) : Option (Int × Int) := (jn (fun (z1 : Int) => (bnd (1 : Int) (fun (z3 : Int) => (some (z1, z3))))) (fun (J2 : Int → Option (Int × Int)) => (lq1 (B_X9_readName_0 i_p0_length J2 v_p0_bytes) 1000 i_p0_at)))
abbrev rm_X9_readName : Room := { frames := 1, cells := 0, slots := 0, locals := 20 }
theorem inX9_readName_X9 : ∀ w ∈ wsX90, w ∈ wsX9_readName := by first | exact fun w h => List.mem_cons_of_mem _ (List.mem_append_right _ h) | decide +kernel
theorem mwX9_readName_1 : Cond.fieldLink RX9 22 "LadleKings$Tape" "token" "I" ∈ wsX9_readName := by first | exact List.mem_of_getElem? (i := 4) rfl | decide +kernel
theorem mwX9_readName_2 : Cond.fieldLink RX9 19 "LadleKings$Tape" "at" "I" ∈ wsX9_readName := by first | exact List.mem_of_getElem? (i := 1) rfl | decide +kernel
theorem mwX9_readName_3 : Cond.fieldLink RX9 15 "LadleKings$Tape" "length" "I" ∈ wsX9_readName := by first | exact List.mem_of_getElem? (i := 2) rfl | decide +kernel
theorem mwX9_readName_4 : Cond.fieldLink RX9 9 "LadleKings$Tape" "bytes" "[B" ∈ wsX9_readName := by first | exact List.mem_of_getElem? (i := 3) rfl | decide +kernel
set_option maxHeartbeats 8000000 in
set_option maxRecDepth 100000 in
theorem c_X9_readName (l : Launch) (D : va_G) (G : Nat → ClassId) (sz : Nat) (a_p0 : Nat) (a_p0_bytes : Nat) (i_p0_length : Int) (i_p0_at : Int) (i_p0_token : Int) (i_p0_start : Int) (i_p0_value : Int) (v_p0_bytes : (Int → Int)) (o_i_p0_at : Int) (o_i_p0_token : Int) (hf : f_X9_readName i_p0_length i_p0_at v_p0_bytes = some (o_i_p0_at, o_i_p0_token)) : Met l yX9_readName wsX9_readName rm_X9_readName (pcG D G [.ref a_p0] sz [(a_p0, .inr (9, [.ref a_p0_bytes, .int (Int32.ofInt i_p0_length), .int (Int32.ofInt i_p0_at), .int (Int32.ofInt i_p0_token), .int (Int32.ofInt i_p0_start), .int (Int32.ofInt i_p0_value)])), (a_p0_bytes, .inl (G 0, 320, .inl (zA v_p0_bytes)))]) (qcV D G [(a_p0, .inr (9, [.ref a_p0_bytes, .int (Int32.ofInt i_p0_length), .int (Int32.ofInt o_i_p0_at), .int (Int32.ofInt o_i_p0_token), .int (Int32.ofInt i_p0_start), .int (Int32.ofInt i_p0_value)])), (a_p0_bytes, .inl (G 0, 320, .inl (zA v_p0_bytes)))] (va_A [(a_p0, .inr (9, [.ref a_p0_bytes, .int (Int32.ofInt i_p0_length), .int (Int32.ofInt i_p0_at), .int (Int32.ofInt i_p0_token), .int (Int32.ofInt i_p0_start), .int (Int32.ofInt i_p0_value)])), (a_p0_bytes, .inl (G 0, 320, .inl (zA v_p0_bytes)))] sz)) 0 0 (va_A [(a_p0, .inr (9, [.ref a_p0_bytes, .int (Int32.ofInt i_p0_length), .int (Int32.ofInt i_p0_at), .int (Int32.ofInt i_p0_token), .int (Int32.ofInt i_p0_start), .int (Int32.ofInt i_p0_value)])), (a_p0_bytes, .inl (G 0, 320, .inl (zA v_p0_bytes)))] sz) := by
  refine Met.ofW (cc := cX9_readName) (maxL := 1) (ret := none) (by decide) rfl ?_
  intro p e s m args below meth c s₁ B hml hv
  obtain ⟨rfl, hsz, hP, hK, hD0⟩ := hv
  have hx := B.exec
  have hb := B.bytes
  have hr := B.returns
  have hts := atoms_spec (ws := wsX9_readName) B.pre
  have hown : s.vm.findClass RX9 = some m.cls := findClass_of_methodNamed B.named
  have hlocks := B.notSynchronized
  subst hsz
  have hD := hD0.self (sz := s.heap.size)
  generalize hAe : va_A [(a_p0, .inr (9, [.ref a_p0_bytes, .int (Int32.ofInt i_p0_length), .int (Int32.ofInt i_p0_at), .int (Int32.ofInt i_p0_token), .int (Int32.ofInt i_p0_start), .int (Int32.ofInt i_p0_value)])), (a_p0_bytes, .inl (G 0, 320, .inl (zA v_p0_bytes)))] s.heap.size = A at hD ⊢
  have hA : ∀ q : Nat, s.heap.size ≤ q → A q := fun q h => by rw [← hAe]; exact Or.inr h
  clear hAe hD0
  have hS : va_S A s.heap s.heap [] := va_S.rf
  have hl := lv_entry ([.ref a_p0]) (n := 1) (Nat.le_of_ble_eq_true rfl)
  rw [lg_entry_eq]
  generalize (lg_sl ([.ref a_p0]) ++ List.replicate (1 - (lg_sl ([.ref a_p0])).length) Slot.unset).toArray = ls at hl ⊢
  have hl : lv_has ls 1 [(0, .ref a_p0)] := hl
  refine W_nameQ (fun Q hQ => ?_)
  obtain ⟨H, hH⟩ : ∃ H, H = s.heap := ⟨_, rfl⟩
  replace hS : va_S A s.heap H [] := by rw [hH]; exact hS
  replace hP : va_P D vwCl [(a_p0, .inr (9, [.ref a_p0_bytes, .int (Int32.ofInt i_p0_length), .int (Int32.ofInt i_p0_at), .int (Int32.ofInt i_p0_token), .int (Int32.ofInt i_p0_start), .int (Int32.ofInt i_p0_value)])), (a_p0_bytes, .inl (G 0, 320, .inl (zA v_p0_bytes)))] H := by rw [hH]; exact hP
  rw [← hH]
  clear hH
  unfold f_X9_readName at hf
  have hq := jn_i hf
  clear hf
  obtain ⟨J2, eJ2, hf⟩ := hq
  have hJ2 : ∀ (z1 : Int) (ls : Array Slot) (H : Heap) (locs : List Loc), lv_has ls 1 [(0, .ref a_p0)] → va_P D vwCl [(a_p0, .inr (9, [.ref a_p0_bytes, .int (Int32.ofInt i_p0_length), .int (Int32.ofInt z1), .int (Int32.ofInt i_p0_token), .int (Int32.ofInt i_p0_start), .int (Int32.ofInt i_p0_value)])), (a_p0_bytes, .inl (G 0, 320, .inl (zA v_p0_bytes)))] H → va_D A [(a_p0, .inr (9, [.ref a_p0_bytes, .int (Int32.ofInt i_p0_length), .int (Int32.ofInt z1), .int (Int32.ofInt i_p0_token), .int (Int32.ofInt i_p0_start), .int (Int32.ofInt i_p0_value)])), (a_p0_bytes, .inl (G 0, 320, .inl (zA v_p0_bytes)))] → va_S A s.heap H locs → J2 z1 = some (o_i_p0_at, o_i_p0_token) → W p l e rm_X9_readName s m ([.ref a_p0] : List Value).toArray below meth c H locs 0 0 Q (F0 m 39 ls []) := by
    clear hf hl hP hD hS
    intro z1 ls H locs hl hP hD hS hf
    replace hf := jn1_s eJ2 hf
    refine lv_aload_n hx hb dX9_readName_39 rfl (lv_at hl 0 rfl) ?_
    refine lv_iconst (v := Int32.ofInt (1 : Int)) hx hb dX9_readName_40 (by decide) ?_
    refine z_topi (fun z3 ez => ?_)
    replace hf := bnd_s hf ez
    clear ez
    refine va_put (D := D) (ci := 9) (v := .int (Int32.ofInt z3)) (ty := .int) (C := RX9) (T := TX9) (N := 6) hx hb hts inX9_readName_X9 tyX9 tyX9_ok nmX9 hown hK hP hD hS 0 rfl rfl 3 (by decide) (hts _ mwX9_readName_1) (fun _ h9 => h9) rfl (by decide +kernel) rfl rfl (Nat.le_of_ble_eq_true rfl) dX9_readName_41 (fun H locs hP hD hS => ?_)
    have hP : va_P D vwCl [(a_p0, .inr (9, [.ref a_p0_bytes, .int (Int32.ofInt i_p0_length), .int (Int32.ofInt z1), .int (Int32.ofInt z3), .int (Int32.ofInt i_p0_start), .int (Int32.ofInt i_p0_value)])), (a_p0_bytes, .inl (G 0, 320, .inl (zA v_p0_bytes)))] H := hP
    have hD : va_D A [(a_p0, .inr (9, [.ref a_p0_bytes, .int (Int32.ofInt i_p0_length), .int (Int32.ofInt z1), .int (Int32.ofInt z3), .int (Int32.ofInt i_p0_start), .int (Int32.ofInt i_p0_value)])), (a_p0_bytes, .inl (G 0, 320, .inl (zA v_p0_bytes)))] := hD
    obtain ⟨rfl, rfl⟩ := ou2 hf
    rw [hQ]
    exact W.vret hx hb hr (fun t ht hW => ⟨⟨(), rfl, trivial, by rw [ht]; exact hP, va_K.moved hW.alike hK, hD⟩, hS.F ht⟩) hS.2.2 dX9_readName_44
  have hq := lq1_i hf
  clear hf
  obtain ⟨B5, eB5, NB5, hf⟩ := hq
  have hB5 : ∀ (n : Nat) (z4 : Int) (ls : Array Slot) (H : Heap) (locs : List Loc), lv_has ls 1 [(0, .ref a_p0)] → va_P D vwCl [(a_p0, .inr (9, [.ref a_p0_bytes, .int (Int32.ofInt i_p0_length), .int (Int32.ofInt z4), .int (Int32.ofInt i_p0_token), .int (Int32.ofInt i_p0_start), .int (Int32.ofInt i_p0_value)])), (a_p0_bytes, .inl (G 0, 320, .inl (zA v_p0_bytes)))] H → va_D A [(a_p0, .inr (9, [.ref a_p0_bytes, .int (Int32.ofInt i_p0_length), .int (Int32.ofInt z4), .int (Int32.ofInt i_p0_token), .int (Int32.ofInt i_p0_start), .int (Int32.ofInt i_p0_value)])), (a_p0_bytes, .inl (G 0, 320, .inl (zA v_p0_bytes)))] → va_S A s.heap H locs → lq1 B5 n z4 = some (o_i_p0_at, o_i_p0_token) → W p l e rm_X9_readName s m ([.ref a_p0] : List Value).toArray below meth c H locs 0 0 Q (F0 m 0 ls []) := by
    clear hf hl hP hD hS
    intro n
    induction n with
    | zero =>
      intro z4 ls H locs hl hP hD hS hf
      exact (lq1_0 hf).elim
    | succ n ih0 =>
      intro z4 ls H locs hl hP hD hS hf
      replace hf := lq1_s eB5 hf
      unfold B_X9_readName_0 at hf
      refine lv_aload_n hx hb dX9_readName_0 rfl (lv_at hl 0 rfl) ?_
      refine va_get (D := D) (ci := 9) (v := .int (Int32.ofInt z4)) (C := RX9) (T := TX9) (N := 6) hx hb hts inX9_readName_X9 hown hK hP 0 rfl rfl 2 (by decide) (hts _ mwX9_readName_2) (fun _ h9 => h9) rfl dX9_readName_1 ?_
      refine lv_aload_n hx hb dX9_readName_4 rfl (lv_at hl 0 rfl) ?_
      refine va_get (D := D) (ci := 9) (v := .int (Int32.ofInt i_p0_length)) (C := RX9) (T := TX9) (N := 6) hx hb hts inX9_readName_X9 hown hK hP 0 rfl rfl 1 (by decide) (hts _ mwX9_readName_3) (fun _ h9 => h9) rfl dX9_readName_5 ?_
      have hr5 := ck_c hf
      replace hf := ck_r hf
      have hr6 := ck_c hf
      replace hf := ck_r hf
      refine lv_icmp_ge (tgt := 39) hx hb dX9_readName_8 (by decide) (fun cc => ?_) (fun cc => ?_)
      ·
        replace hf := ite_t ((z_le hr6 hr5).mp cc) hf
        clear cc
        exact hJ2 _ _ _ _ (lv_sub hl [0] rfl) hP hD hS hf
      ·
        replace hf := ite_f (fun h9 => cc ((z_le hr6 hr5).mpr h9)) hf
        clear cc
        refine lv_aload_n hx hb dX9_readName_11 rfl (lv_at hl 0 rfl) ?_
        refine va_get (D := D) (ci := 9) (v := .ref a_p0_bytes) (C := RX9) (T := TX9) (N := 6) hx hb hts inX9_readName_X9 hown hK hP 0 rfl rfl 0 (by decide) (hts _ mwX9_readName_4) (fun _ h9 => h9) rfl dX9_readName_12 ?_
        refine lv_aload_n hx hb dX9_readName_15 rfl (lv_at hl 0 rfl) ?_
        refine va_get (D := D) (ci := 9) (v := .int (Int32.ofInt z4)) (C := RX9) (T := TX9) (N := 6) hx hb hts inX9_readName_X9 hown hK hP 0 rfl rfl 2 (by decide) (hts _ mwX9_readName_2) (fun _ h9 => h9) rfl dX9_readName_16 ?_
        have hc := ck_c hf
        replace hf := ck_r hf
        refine va_bald hx hb hK hP 1 0 rfl rfl (z_ix_in hc) dX9_readName_19 (z_ci (z_ald v_p0_bytes hc) ?_)
        clear hc
        have hq := bd1_s hf
        clear hf
        obtain ⟨z8, hcall, hf⟩ := hq
        refine gnI (va_runS (As := [.int (Int32.ofInt (v_p0_bytes z4))]) (rest := []) ⟨hx, hb, hml, hown, hts⟩ (c_X9_isLetter (l := l) (D := D) (G := G) (sz := H.size) (x0 := (v_p0_bytes z4)) (r := z8) (hf := hcall)) (va_cwS 1 hts gX9_readName_X9_isLetter rfl rfl rfl (by decide +kernel) ⟨Nat.le_of_ble_eq_true rfl, Nat.le_of_ble_eq_true rfl⟩) (preG_S (hP.sub [] rfl) (hD.sub [] rfl rfl) hK) rfl rfl hl.1 rfl (lv_room (Nat.le_of_ble_eq_true rfl)) dX9_readName_20 ⟨Nat.le_of_ble_eq_true rfl, Nat.le_of_ble_eq_true rfl⟩) hP hD hS hA [] rfl (fun H locs hP hD hS => ?_)
        clear hcall
        have hr8 := ck_c hf
        replace hf := ck_r hf
        refine lv_if_eq (tgt := 39) hx hb dX9_readName_23 (by decide) (fun cc => ?_) (fun cc => ?_)
        ·
          replace hf := ite_t ((z_eq0 hr8).mp cc) hf
          clear cc
          exact hJ2 _ _ _ _ (lv_sub hl [0] rfl) hP hD hS hf
        ·
          replace hf := ite_f (fun h9 => cc ((z_eq0 hr8).mpr h9)) hf
          clear cc
          refine lv_aload_n hx hb dX9_readName_26 rfl (lv_at hl 0 rfl) ?_
          refine lv_dup hx hb dX9_readName_27 rfl ?_
          refine va_get (D := D) (ci := 9) (v := .int (Int32.ofInt z4)) (C := RX9) (T := TX9) (N := 6) hx hb hts inX9_readName_X9 hown hK hP 0 rfl rfl 2 (by decide) (hts _ mwX9_readName_2) (fun _ h9 => h9) rfl dX9_readName_28 ?_
          refine lv_iconst (v := Int32.ofInt (1 : Int)) hx hb dX9_readName_31 (by decide) ?_
          refine lv_iadd hx hb dX9_readName_32 (z_ci (Int32.ofInt_add z4 (1 : Int)) ?_)
          refine z_topi (fun z10 ez => ?_)
          replace hf := bnd_s hf ez
          clear ez
          refine va_put (D := D) (ci := 9) (v := .int (Int32.ofInt z10)) (ty := .int) (C := RX9) (T := TX9) (N := 6) hx hb hts inX9_readName_X9 tyX9 tyX9_ok nmX9 hown hK hP hD hS 0 rfl rfl 2 (by decide) (hts _ mwX9_readName_2) (fun _ h9 => h9) rfl (by decide +kernel) rfl rfl (Nat.le_of_ble_eq_true rfl) dX9_readName_33 (fun H locs hP hD hS => ?_)
          have hP : va_P D vwCl [(a_p0, .inr (9, [.ref a_p0_bytes, .int (Int32.ofInt i_p0_length), .int (Int32.ofInt z10), .int (Int32.ofInt i_p0_token), .int (Int32.ofInt i_p0_start), .int (Int32.ofInt i_p0_value)])), (a_p0_bytes, .inl (G 0, 320, .inl (zA v_p0_bytes)))] H := hP
          have hD : va_D A [(a_p0, .inr (9, [.ref a_p0_bytes, .int (Int32.ofInt i_p0_length), .int (Int32.ofInt z10), .int (Int32.ofInt i_p0_token), .int (Int32.ofInt i_p0_start), .int (Int32.ofInt i_p0_value)])), (a_p0_bytes, .inl (G 0, 320, .inl (zA v_p0_bytes)))] := hD
          refine lv_goto (tgt := 0) hx hb dX9_readName_36 (by decide) ?_
          exact ih0 _ _ _ _ (lv_sub hl [0] rfl) hP hD hS hf
  exact hB5 _ _ _ _ _ (lv_sub hl [0] rfl) hP hD hS hf

noncomputable def f_X9_isFigure (x0 : Int) : Option (Int) := (ck (z_r32 x0) (if x0 < (48 : Int) then (some (0 : Int)) else (if (57 : Int) < x0 then (some (0 : Int)) else (some (1 : Int)))))
abbrev rm_X9_isFigure : Room := { frames := 0, cells := 0, slots := 0, locals := 0 }
set_option maxHeartbeats 8000000 in
set_option maxRecDepth 100000 in
theorem c_X9_isFigure (l : Launch) (D : va_G) (G : Nat → ClassId) (sz : Nat) (x0 : Int) (r : Int) (hf : f_X9_isFigure x0 = some r) : Met l yX9_isFigure wsX9_isFigure rm_X9_isFigure (pcG D G [.int (Int32.ofInt x0)] sz []) (qcI D G (Int32.ofInt r) [] (va_A [] sz)) 0 0 (va_A [] sz) := by
  refine Met.ofW (cc := cX9_isFigure) (maxL := 1) (ret := (some .boolean)) (by decide) rfl ?_
  intro p e s m args below meth c s₁ B hml hv
  obtain ⟨rfl, hsz, hP, hK, hD0⟩ := hv
  have hx := B.exec
  have hb := B.bytes
  have hr := B.returns
  have hts := atoms_spec (ws := wsX9_isFigure) B.pre
  have hown : s.vm.findClass RX9 = some m.cls := findClass_of_methodNamed B.named
  have hlocks := B.notSynchronized
  subst hsz
  have hD := hD0.self (sz := s.heap.size)
  generalize hAe : va_A [] s.heap.size = A at hD ⊢
  have hA : ∀ q : Nat, s.heap.size ≤ q → A q := fun q h => by rw [← hAe]; exact Or.inr h
  clear hAe hD0
  have hS : va_S A s.heap s.heap [] := va_S.rf
  have hl := lv_entry ([.int (Int32.ofInt x0)]) (n := 1) (Nat.le_of_ble_eq_true rfl)
  rw [lg_entry_eq]
  generalize (lg_sl ([.int (Int32.ofInt x0)]) ++ List.replicate (1 - (lg_sl ([.int (Int32.ofInt x0)])).length) Slot.unset).toArray = ls at hl ⊢
  have hl : lv_has ls 1 [(0, .int (Int32.ofInt x0))] := hl
  refine W_nameQ (fun Q hQ => ?_)
  obtain ⟨H, hH⟩ : ∃ H, H = s.heap := ⟨_, rfl⟩
  replace hS : va_S A s.heap H [] := by rw [hH]; exact hS
  replace hP : va_P D vwCl [] H := by rw [hH]; exact hP
  rw [← hH]
  clear hH
  unfold f_X9_isFigure at hf
  refine lv_iload_n hx hb dX9_isFigure_0 rfl (lv_at hl 0 rfl) ?_
  refine lv_bipush (v := Int32.ofInt (48 : Int)) hx hb dX9_isFigure_1 (by decide) ?_
  have hr0 := ck_c hf
  replace hf := ck_r hf
  refine lv_icmp_lt (tgt := 16) hx hb dX9_isFigure_3 (by decide) (fun cc => ?_) (fun cc => ?_)
  ·
    replace hf := ite_t ((z_lt hr0 (by decide)).mp cc) hf
    clear cc
    refine lv_iconst (v := Int32.ofInt (0 : Int)) hx hb dX9_isFigure_16 (by decide) ?_
    obtain rfl := ou1 hf
    rw [hQ]
    exact W.zret hx hb hr rfl (fun t ht hW => ⟨⟨_, (), rfl, rfl, by rw [ht]; exact hP, va_K.moved hW.alike hK, hD⟩, hS.F ht⟩) hS.2.2 dX9_isFigure_17
  ·
    replace hf := ite_f (fun h9 => cc ((z_lt hr0 (by decide)).mpr h9)) hf
    clear cc
    refine lv_iload_n hx hb dX9_isFigure_6 rfl (lv_at hl 0 rfl) ?_
    refine lv_bipush (v := Int32.ofInt (57 : Int)) hx hb dX9_isFigure_7 (by decide) ?_
    refine lv_icmp_gt (tgt := 16) hx hb dX9_isFigure_9 (by decide) (fun cc => ?_) (fun cc => ?_)
    ·
      replace hf := ite_t ((z_lt (by decide) hr0).mp cc) hf
      clear cc
      refine lv_iconst (v := Int32.ofInt (0 : Int)) hx hb dX9_isFigure_16 (by decide) ?_
      obtain rfl := ou1 hf
      rw [hQ]
      exact W.zret hx hb hr rfl (fun t ht hW => ⟨⟨_, (), rfl, rfl, by rw [ht]; exact hP, va_K.moved hW.alike hK, hD⟩, hS.F ht⟩) hS.2.2 dX9_isFigure_17
    ·
      replace hf := ite_f (fun h9 => cc ((z_lt (by decide) hr0).mpr h9)) hf
      clear cc
      refine lv_iconst (v := Int32.ofInt (1 : Int)) hx hb dX9_isFigure_12 (by decide) ?_
      refine lv_goto (tgt := 17) hx hb dX9_isFigure_13 (by decide) ?_
      obtain rfl := ou1 hf
      rw [hQ]
      exact W.zret hx hb hr rfl (fun t ht hW => ⟨⟨_, (), rfl, rfl, by rw [ht]; exact hP, va_K.moved hW.alike hK, hD⟩, hS.F ht⟩) hS.2.2 dX9_isFigure_17

noncomputable def B_X9_readFigures_5 (i_p0_length : Int) (J4 : Int → Int → Option (Int × Int × Int)) (v_p0_bytes : (Int → Int)) (again5 : Int → Int → Option (Int × Int × Int)) (z8 : Int) (z9 : Int) : Option (Int × Int × Int) := (ck (z_r32 z8) (ck (z_r32 i_p0_length) (if i_p0_length ≤ z8 then (J4 z8 z9) else (ck (z_ix z8 320) (bd1 (f_X9_isFigure (v_p0_bytes z8)) (fun (z13 : Int) => (ck (z_r32 z13) (if z13 = (0 : Int) then (J4 z8 z9) else (ck (z_ix z8 320) (bnd ((z9 * (10 : Int)) + ((v_p0_bytes z8) - (48 : Int))) (fun (z15 : Int) => (bnd (z8 + (1 : Int)) (fun (z16 : Int) => (again5 z16 z15))))))))))))))
noncomputable def f_X9_readFigures (i_p0_length : Int) (i_p0_at : Int) (i_p0_start : Int) (v_p0_bytes : (Int → Int)) : Option (Int × Int × Int) := (bnd (0 : Int) (fun (z1 : Int) => (jn (fun (z2 : Int) (z3 : Int) => (ck (z_r32 (z2 - i_p0_start)) (if (z2 - i_p0_start) ≤ (2 : Int) then (bnd (2 : Int) (fun (z6 : Int) => (some (z2, z6, z3)))) else (bnd (4 : Int) (fun (z7 : Int) => (some (z2, z7, z3))))))) (fun (J4 : Int → Int → Option (Int × Int × Int)) => (lq2 (B_X9_readFigures_5 i_p0_length J4 v_p0_bytes) 1000 i_p0_at z1)))))
abbrev rm_X9_readFigures : Room := { frames := 1, cells := 0, slots := 0, locals := 20 }
theorem inX9_readFigures_X9 : ∀ w ∈ wsX90, w ∈ wsX9_readFigures := by first | exact fun w h => List.mem_cons_of_mem _ (List.mem_append_right _ h) | decide +kernel
theorem mwX9_readFigures_1 : Cond.fieldLink RX9 28 "LadleKings$Tape" "value" "I" ∈ wsX9_readFigures := by first | exact List.mem_of_getElem? (i := 1) rfl | decide +kernel
theorem mwX9_readFigures_2 : Cond.fieldLink RX9 19 "LadleKings$Tape" "at" "I" ∈ wsX9_readFigures := by first | exact List.mem_of_getElem? (i := 2) rfl | decide +kernel
theorem mwX9_readFigures_3 : Cond.fieldLink RX9 25 "LadleKings$Tape" "start" "I" ∈ wsX9_readFigures := by first | exact List.mem_of_getElem? (i := 5) rfl | decide +kernel
theorem mwX9_readFigures_4 : Cond.fieldLink RX9 22 "LadleKings$Tape" "token" "I" ∈ wsX9_readFigures := by first | exact List.mem_of_getElem? (i := 6) rfl | decide +kernel
theorem mwX9_readFigures_5 : Cond.fieldLink RX9 15 "LadleKings$Tape" "length" "I" ∈ wsX9_readFigures := by first | exact List.mem_of_getElem? (i := 3) rfl | decide +kernel
theorem mwX9_readFigures_6 : Cond.fieldLink RX9 9 "LadleKings$Tape" "bytes" "[B" ∈ wsX9_readFigures := by first | exact List.mem_of_getElem? (i := 4) rfl | decide +kernel
set_option maxHeartbeats 8000000 in
set_option maxRecDepth 100000 in
theorem c_X9_readFigures (l : Launch) (D : va_G) (G : Nat → ClassId) (sz : Nat) (a_p0 : Nat) (a_p0_bytes : Nat) (i_p0_length : Int) (i_p0_at : Int) (i_p0_token : Int) (i_p0_start : Int) (i_p0_value : Int) (v_p0_bytes : (Int → Int)) (o_i_p0_at : Int) (o_i_p0_token : Int) (o_i_p0_value : Int) (hf : f_X9_readFigures i_p0_length i_p0_at i_p0_start v_p0_bytes = some (o_i_p0_at, o_i_p0_token, o_i_p0_value)) : Met l yX9_readFigures wsX9_readFigures rm_X9_readFigures (pcG D G [.ref a_p0] sz [(a_p0, .inr (9, [.ref a_p0_bytes, .int (Int32.ofInt i_p0_length), .int (Int32.ofInt i_p0_at), .int (Int32.ofInt i_p0_token), .int (Int32.ofInt i_p0_start), .int (Int32.ofInt i_p0_value)])), (a_p0_bytes, .inl (G 0, 320, .inl (zA v_p0_bytes)))]) (qcV D G [(a_p0, .inr (9, [.ref a_p0_bytes, .int (Int32.ofInt i_p0_length), .int (Int32.ofInt o_i_p0_at), .int (Int32.ofInt o_i_p0_token), .int (Int32.ofInt i_p0_start), .int (Int32.ofInt o_i_p0_value)])), (a_p0_bytes, .inl (G 0, 320, .inl (zA v_p0_bytes)))] (va_A [(a_p0, .inr (9, [.ref a_p0_bytes, .int (Int32.ofInt i_p0_length), .int (Int32.ofInt i_p0_at), .int (Int32.ofInt i_p0_token), .int (Int32.ofInt i_p0_start), .int (Int32.ofInt i_p0_value)])), (a_p0_bytes, .inl (G 0, 320, .inl (zA v_p0_bytes)))] sz)) 0 0 (va_A [(a_p0, .inr (9, [.ref a_p0_bytes, .int (Int32.ofInt i_p0_length), .int (Int32.ofInt i_p0_at), .int (Int32.ofInt i_p0_token), .int (Int32.ofInt i_p0_start), .int (Int32.ofInt i_p0_value)])), (a_p0_bytes, .inl (G 0, 320, .inl (zA v_p0_bytes)))] sz) := by
  refine Met.ofW (cc := cX9_readFigures) (maxL := 1) (ret := none) (by decide) rfl ?_
  intro p e s m args below meth c s₁ B hml hv
  obtain ⟨rfl, hsz, hP, hK, hD0⟩ := hv
  have hx := B.exec
  have hb := B.bytes
  have hr := B.returns
  have hts := atoms_spec (ws := wsX9_readFigures) B.pre
  have hown : s.vm.findClass RX9 = some m.cls := findClass_of_methodNamed B.named
  have hlocks := B.notSynchronized
  subst hsz
  have hD := hD0.self (sz := s.heap.size)
  generalize hAe : va_A [(a_p0, .inr (9, [.ref a_p0_bytes, .int (Int32.ofInt i_p0_length), .int (Int32.ofInt i_p0_at), .int (Int32.ofInt i_p0_token), .int (Int32.ofInt i_p0_start), .int (Int32.ofInt i_p0_value)])), (a_p0_bytes, .inl (G 0, 320, .inl (zA v_p0_bytes)))] s.heap.size = A at hD ⊢
  have hA : ∀ q : Nat, s.heap.size ≤ q → A q := fun q h => by rw [← hAe]; exact Or.inr h
  clear hAe hD0
  have hS : va_S A s.heap s.heap [] := va_S.rf
  have hl := lv_entry ([.ref a_p0]) (n := 1) (Nat.le_of_ble_eq_true rfl)
  rw [lg_entry_eq]
  generalize (lg_sl ([.ref a_p0]) ++ List.replicate (1 - (lg_sl ([.ref a_p0])).length) Slot.unset).toArray = ls at hl ⊢
  have hl : lv_has ls 1 [(0, .ref a_p0)] := hl
  refine W_nameQ (fun Q hQ => ?_)
  obtain ⟨H, hH⟩ : ∃ H, H = s.heap := ⟨_, rfl⟩
  replace hS : va_S A s.heap H [] := by rw [hH]; exact hS
  replace hP : va_P D vwCl [(a_p0, .inr (9, [.ref a_p0_bytes, .int (Int32.ofInt i_p0_length), .int (Int32.ofInt i_p0_at), .int (Int32.ofInt i_p0_token), .int (Int32.ofInt i_p0_start), .int (Int32.ofInt i_p0_value)])), (a_p0_bytes, .inl (G 0, 320, .inl (zA v_p0_bytes)))] H := by rw [hH]; exact hP
  rw [← hH]
  clear hH
  unfold f_X9_readFigures at hf
  refine lv_aload_n hx hb dX9_readFigures_0 rfl (lv_at hl 0 rfl) ?_
  refine lv_iconst (v := Int32.ofInt (0 : Int)) hx hb dX9_readFigures_1 (by decide) ?_
  refine z_topi (fun z1 ez => ?_)
  replace hf := bnd_s hf ez
  clear ez
  refine va_put (D := D) (ci := 9) (v := .int (Int32.ofInt z1)) (ty := .int) (C := RX9) (T := TX9) (N := 6) hx hb hts inX9_readFigures_X9 tyX9 tyX9_ok nmX9 hown hK hP hD hS 0 rfl rfl 5 (by decide) (hts _ mwX9_readFigures_1) (fun _ h9 => h9) rfl (by decide +kernel) rfl rfl (Nat.le_of_ble_eq_true rfl) dX9_readFigures_2 (fun H locs hP hD hS => ?_)
  have hP : va_P D vwCl [(a_p0, .inr (9, [.ref a_p0_bytes, .int (Int32.ofInt i_p0_length), .int (Int32.ofInt i_p0_at), .int (Int32.ofInt i_p0_token), .int (Int32.ofInt i_p0_start), .int (Int32.ofInt z1)])), (a_p0_bytes, .inl (G 0, 320, .inl (zA v_p0_bytes)))] H := hP
  have hD : va_D A [(a_p0, .inr (9, [.ref a_p0_bytes, .int (Int32.ofInt i_p0_length), .int (Int32.ofInt i_p0_at), .int (Int32.ofInt i_p0_token), .int (Int32.ofInt i_p0_start), .int (Int32.ofInt z1)])), (a_p0_bytes, .inl (G 0, 320, .inl (zA v_p0_bytes)))] := hD
  have hq := jn_i hf
  clear hf
  obtain ⟨J4, eJ4, hf⟩ := hq
  have hJ4 : ∀ (z2 : Int) (z3 : Int) (ls : Array Slot) (H : Heap) (locs : List Loc), lv_has ls 1 [(0, .ref a_p0)] → va_P D vwCl [(a_p0, .inr (9, [.ref a_p0_bytes, .int (Int32.ofInt i_p0_length), .int (Int32.ofInt z2), .int (Int32.ofInt i_p0_token), .int (Int32.ofInt i_p0_start), .int (Int32.ofInt z3)])), (a_p0_bytes, .inl (G 0, 320, .inl (zA v_p0_bytes)))] H → va_D A [(a_p0, .inr (9, [.ref a_p0_bytes, .int (Int32.ofInt i_p0_length), .int (Int32.ofInt z2), .int (Int32.ofInt i_p0_token), .int (Int32.ofInt i_p0_start), .int (Int32.ofInt z3)])), (a_p0_bytes, .inl (G 0, 320, .inl (zA v_p0_bytes)))] → va_S A s.heap H locs → J4 z2 z3 = some (o_i_p0_at, o_i_p0_token, o_i_p0_value) → W p l e rm_X9_readFigures s m ([.ref a_p0] : List Value).toArray below meth c H locs 0 0 Q (F0 m 68 ls []) := by
    clear hf hl hP hD hS
    intro z2 z3 ls H locs hl hP hD hS hf
    replace hf := jn2_s eJ4 hf
    refine lv_aload_n hx hb dX9_readFigures_68 rfl (lv_at hl 0 rfl) ?_
    refine lv_aload_n hx hb dX9_readFigures_69 rfl (lv_at hl 0 rfl) ?_
    refine va_get (D := D) (ci := 9) (v := .int (Int32.ofInt z2)) (C := RX9) (T := TX9) (N := 6) hx hb hts inX9_readFigures_X9 hown hK hP 0 rfl rfl 2 (by decide) (hts _ mwX9_readFigures_2) (fun _ h9 => h9) rfl dX9_readFigures_70 ?_
    refine lv_aload_n hx hb dX9_readFigures_73 rfl (lv_at hl 0 rfl) ?_
    refine va_get (D := D) (ci := 9) (v := .int (Int32.ofInt i_p0_start)) (C := RX9) (T := TX9) (N := 6) hx hb hts inX9_readFigures_X9 hown hK hP 0 rfl rfl 4 (by decide) (hts _ mwX9_readFigures_3) (fun _ h9 => h9) rfl dX9_readFigures_74 ?_
    refine lv_isub hx hb dX9_readFigures_77 (z_ci (Int32.ofInt_sub z2 i_p0_start) ?_)
    refine lv_iconst (v := Int32.ofInt (2 : Int)) hx hb dX9_readFigures_78 (by decide) ?_
    have hr4 := ck_c hf
    replace hf := ck_r hf
    refine lv_icmp_le (tgt := 86) hx hb dX9_readFigures_79 (by decide) (fun cc => ?_) (fun cc => ?_)
    ·
      replace hf := ite_t ((z_le hr4 (by decide)).mp cc) hf
      clear cc
      refine lv_iconst (v := Int32.ofInt (2 : Int)) hx hb dX9_readFigures_86 (by decide) ?_
      refine z_topi (fun z6 ez => ?_)
      replace hf := bnd_s hf ez
      clear ez
      refine va_put (D := D) (ci := 9) (v := .int (Int32.ofInt z6)) (ty := .int) (C := RX9) (T := TX9) (N := 6) hx hb hts inX9_readFigures_X9 tyX9 tyX9_ok nmX9 hown hK hP hD hS 0 rfl rfl 3 (by decide) (hts _ mwX9_readFigures_4) (fun _ h9 => h9) rfl (by decide +kernel) rfl rfl (Nat.le_of_ble_eq_true rfl) dX9_readFigures_87 (fun H locs hP hD hS => ?_)
      have hP : va_P D vwCl [(a_p0, .inr (9, [.ref a_p0_bytes, .int (Int32.ofInt i_p0_length), .int (Int32.ofInt z2), .int (Int32.ofInt z6), .int (Int32.ofInt i_p0_start), .int (Int32.ofInt z3)])), (a_p0_bytes, .inl (G 0, 320, .inl (zA v_p0_bytes)))] H := hP
      have hD : va_D A [(a_p0, .inr (9, [.ref a_p0_bytes, .int (Int32.ofInt i_p0_length), .int (Int32.ofInt z2), .int (Int32.ofInt z6), .int (Int32.ofInt i_p0_start), .int (Int32.ofInt z3)])), (a_p0_bytes, .inl (G 0, 320, .inl (zA v_p0_bytes)))] := hD
      obtain ⟨rfl, rfl, rfl⟩ := ou3 hf
      rw [hQ]
      exact W.vret hx hb hr (fun t ht hW => ⟨⟨(), rfl, trivial, by rw [ht]; exact hP, va_K.moved hW.alike hK, hD⟩, hS.F ht⟩) hS.2.2 dX9_readFigures_90
    ·
      replace hf := ite_f (fun h9 => cc ((z_le hr4 (by decide)).mpr h9)) hf
      clear cc
      refine lv_iconst (v := Int32.ofInt (4 : Int)) hx hb dX9_readFigures_82 (by decide) ?_
      refine lv_goto (tgt := 87) hx hb dX9_readFigures_83 (by decide) ?_
      refine z_topi (fun z7 ez => ?_)
      replace hf := bnd_s hf ez
      clear ez
      refine va_put (D := D) (ci := 9) (v := .int (Int32.ofInt z7)) (ty := .int) (C := RX9) (T := TX9) (N := 6) hx hb hts inX9_readFigures_X9 tyX9 tyX9_ok nmX9 hown hK hP hD hS 0 rfl rfl 3 (by decide) (hts _ mwX9_readFigures_4) (fun _ h9 => h9) rfl (by decide +kernel) rfl rfl (Nat.le_of_ble_eq_true rfl) dX9_readFigures_87 (fun H locs hP hD hS => ?_)
      have hP : va_P D vwCl [(a_p0, .inr (9, [.ref a_p0_bytes, .int (Int32.ofInt i_p0_length), .int (Int32.ofInt z2), .int (Int32.ofInt z7), .int (Int32.ofInt i_p0_start), .int (Int32.ofInt z3)])), (a_p0_bytes, .inl (G 0, 320, .inl (zA v_p0_bytes)))] H := hP
      have hD : va_D A [(a_p0, .inr (9, [.ref a_p0_bytes, .int (Int32.ofInt i_p0_length), .int (Int32.ofInt z2), .int (Int32.ofInt z7), .int (Int32.ofInt i_p0_start), .int (Int32.ofInt z3)])), (a_p0_bytes, .inl (G 0, 320, .inl (zA v_p0_bytes)))] := hD
      obtain ⟨rfl, rfl, rfl⟩ := ou3 hf
      rw [hQ]
      exact W.vret hx hb hr (fun t ht hW => ⟨⟨(), rfl, trivial, by rw [ht]; exact hP, va_K.moved hW.alike hK, hD⟩, hS.F ht⟩) hS.2.2 dX9_readFigures_90
  have hq := lq2_i hf
  clear hf
  obtain ⟨B10, eB10, NB10, hf⟩ := hq
  have hB10 : ∀ (n : Nat) (z8 : Int) (z9 : Int) (ls : Array Slot) (H : Heap) (locs : List Loc), lv_has ls 1 [(0, .ref a_p0)] → va_P D vwCl [(a_p0, .inr (9, [.ref a_p0_bytes, .int (Int32.ofInt i_p0_length), .int (Int32.ofInt z8), .int (Int32.ofInt i_p0_token), .int (Int32.ofInt i_p0_start), .int (Int32.ofInt z9)])), (a_p0_bytes, .inl (G 0, 320, .inl (zA v_p0_bytes)))] H → va_D A [(a_p0, .inr (9, [.ref a_p0_bytes, .int (Int32.ofInt i_p0_length), .int (Int32.ofInt z8), .int (Int32.ofInt i_p0_token), .int (Int32.ofInt i_p0_start), .int (Int32.ofInt z9)])), (a_p0_bytes, .inl (G 0, 320, .inl (zA v_p0_bytes)))] → va_S A s.heap H locs → lq2 B10 n z8 z9 = some (o_i_p0_at, o_i_p0_token, o_i_p0_value) → W p l e rm_X9_readFigures s m ([.ref a_p0] : List Value).toArray below meth c H locs 0 0 Q (F0 m 5 ls []) := by
    clear hf hl hP hD hS
    intro n
    induction n with
    | zero =>
      intro z8 z9 ls H locs hl hP hD hS hf
      exact (lq2_0 hf).elim
    | succ n ih5 =>
      intro z8 z9 ls H locs hl hP hD hS hf
      replace hf := lq2_s eB10 hf
      unfold B_X9_readFigures_5 at hf
      refine lv_aload_n hx hb dX9_readFigures_5 rfl (lv_at hl 0 rfl) ?_
      refine va_get (D := D) (ci := 9) (v := .int (Int32.ofInt z8)) (C := RX9) (T := TX9) (N := 6) hx hb hts inX9_readFigures_X9 hown hK hP 0 rfl rfl 2 (by decide) (hts _ mwX9_readFigures_2) (fun _ h9 => h9) rfl dX9_readFigures_6 ?_
      refine lv_aload_n hx hb dX9_readFigures_9 rfl (lv_at hl 0 rfl) ?_
      refine va_get (D := D) (ci := 9) (v := .int (Int32.ofInt i_p0_length)) (C := RX9) (T := TX9) (N := 6) hx hb hts inX9_readFigures_X9 hown hK hP 0 rfl rfl 1 (by decide) (hts _ mwX9_readFigures_5) (fun _ h9 => h9) rfl dX9_readFigures_10 ?_
      have hr10 := ck_c hf
      replace hf := ck_r hf
      have hr11 := ck_c hf
      replace hf := ck_r hf
      refine lv_icmp_ge (tgt := 68) hx hb dX9_readFigures_13 (by decide) (fun cc => ?_) (fun cc => ?_)
      ·
        replace hf := ite_t ((z_le hr11 hr10).mp cc) hf
        clear cc
        exact hJ4 _ _ _ _ _ (lv_sub hl [0] rfl) hP hD hS hf
      ·
        replace hf := ite_f (fun h9 => cc ((z_le hr11 hr10).mpr h9)) hf
        clear cc
        refine lv_aload_n hx hb dX9_readFigures_16 rfl (lv_at hl 0 rfl) ?_
        refine va_get (D := D) (ci := 9) (v := .ref a_p0_bytes) (C := RX9) (T := TX9) (N := 6) hx hb hts inX9_readFigures_X9 hown hK hP 0 rfl rfl 0 (by decide) (hts _ mwX9_readFigures_6) (fun _ h9 => h9) rfl dX9_readFigures_17 ?_
        refine lv_aload_n hx hb dX9_readFigures_20 rfl (lv_at hl 0 rfl) ?_
        refine va_get (D := D) (ci := 9) (v := .int (Int32.ofInt z8)) (C := RX9) (T := TX9) (N := 6) hx hb hts inX9_readFigures_X9 hown hK hP 0 rfl rfl 2 (by decide) (hts _ mwX9_readFigures_2) (fun _ h9 => h9) rfl dX9_readFigures_21 ?_
        have hc := ck_c hf
        replace hf := ck_r hf
        refine va_bald hx hb hK hP 1 0 rfl rfl (z_ix_in hc) dX9_readFigures_24 (z_ci (z_ald v_p0_bytes hc) ?_)
        clear hc
        have hq := bd1_s hf
        clear hf
        obtain ⟨z13, hcall, hf⟩ := hq
        refine gnI (va_runS (As := [.int (Int32.ofInt (v_p0_bytes z8))]) (rest := []) ⟨hx, hb, hml, hown, hts⟩ (c_X9_isFigure (l := l) (D := D) (G := G) (sz := H.size) (x0 := (v_p0_bytes z8)) (r := z13) (hf := hcall)) (va_cwS 1 hts gX9_readFigures_X9_isFigure rfl rfl rfl (by decide +kernel) ⟨Nat.le_of_ble_eq_true rfl, Nat.le_of_ble_eq_true rfl⟩) (preG_S (hP.sub [] rfl) (hD.sub [] rfl rfl) hK) rfl rfl hl.1 rfl (lv_room (Nat.le_of_ble_eq_true rfl)) dX9_readFigures_25 ⟨Nat.le_of_ble_eq_true rfl, Nat.le_of_ble_eq_true rfl⟩) hP hD hS hA [] rfl (fun H locs hP hD hS => ?_)
        clear hcall
        have hr13 := ck_c hf
        replace hf := ck_r hf
        refine lv_if_eq (tgt := 68) hx hb dX9_readFigures_28 (by decide) (fun cc => ?_) (fun cc => ?_)
        ·
          replace hf := ite_t ((z_eq0 hr13).mp cc) hf
          clear cc
          exact hJ4 _ _ _ _ _ (lv_sub hl [0] rfl) hP hD hS hf
        ·
          replace hf := ite_f (fun h9 => cc ((z_eq0 hr13).mpr h9)) hf
          clear cc
          refine lv_aload_n hx hb dX9_readFigures_31 rfl (lv_at hl 0 rfl) ?_
          refine lv_aload_n hx hb dX9_readFigures_32 rfl (lv_at hl 0 rfl) ?_
          refine va_get (D := D) (ci := 9) (v := .int (Int32.ofInt z9)) (C := RX9) (T := TX9) (N := 6) hx hb hts inX9_readFigures_X9 hown hK hP 0 rfl rfl 5 (by decide) (hts _ mwX9_readFigures_1) (fun _ h9 => h9) rfl dX9_readFigures_33 ?_
          refine lv_bipush (v := Int32.ofInt (10 : Int)) hx hb dX9_readFigures_36 (by decide) ?_
          refine lv_imul hx hb dX9_readFigures_38 (z_ci (Int32.ofInt_mul z9 (10 : Int)) ?_)
          refine lv_aload_n hx hb dX9_readFigures_39 rfl (lv_at hl 0 rfl) ?_
          refine va_get (D := D) (ci := 9) (v := .ref a_p0_bytes) (C := RX9) (T := TX9) (N := 6) hx hb hts inX9_readFigures_X9 hown hK hP 0 rfl rfl 0 (by decide) (hts _ mwX9_readFigures_6) (fun _ h9 => h9) rfl dX9_readFigures_40 ?_
          refine lv_aload_n hx hb dX9_readFigures_43 rfl (lv_at hl 0 rfl) ?_
          refine va_get (D := D) (ci := 9) (v := .int (Int32.ofInt z8)) (C := RX9) (T := TX9) (N := 6) hx hb hts inX9_readFigures_X9 hown hK hP 0 rfl rfl 2 (by decide) (hts _ mwX9_readFigures_2) (fun _ h9 => h9) rfl dX9_readFigures_44 ?_
          have hc := ck_c hf
          replace hf := ck_r hf
          refine va_bald hx hb hK hP 1 0 rfl rfl (z_ix_in hc) dX9_readFigures_47 (z_ci (z_ald v_p0_bytes hc) ?_)
          clear hc
          refine lv_bipush (v := Int32.ofInt (48 : Int)) hx hb dX9_readFigures_48 (by decide) ?_
          refine lv_isub hx hb dX9_readFigures_50 (z_ci (Int32.ofInt_sub (v_p0_bytes z8) (48 : Int)) ?_)
          refine lv_iadd hx hb dX9_readFigures_51 (z_ci (Int32.ofInt_add (z9 * (10 : Int)) ((v_p0_bytes z8) - (48 : Int))) ?_)
          refine z_topi (fun z15 ez => ?_)
          replace hf := bnd_s hf ez
          clear ez
          refine va_put (D := D) (ci := 9) (v := .int (Int32.ofInt z15)) (ty := .int) (C := RX9) (T := TX9) (N := 6) hx hb hts inX9_readFigures_X9 tyX9 tyX9_ok nmX9 hown hK hP hD hS 0 rfl rfl 5 (by decide) (hts _ mwX9_readFigures_1) (fun _ h9 => h9) rfl (by decide +kernel) rfl rfl (Nat.le_of_ble_eq_true rfl) dX9_readFigures_52 (fun H locs hP hD hS => ?_)
          have hP : va_P D vwCl [(a_p0, .inr (9, [.ref a_p0_bytes, .int (Int32.ofInt i_p0_length), .int (Int32.ofInt z8), .int (Int32.ofInt i_p0_token), .int (Int32.ofInt i_p0_start), .int (Int32.ofInt z15)])), (a_p0_bytes, .inl (G 0, 320, .inl (zA v_p0_bytes)))] H := hP
          have hD : va_D A [(a_p0, .inr (9, [.ref a_p0_bytes, .int (Int32.ofInt i_p0_length), .int (Int32.ofInt z8), .int (Int32.ofInt i_p0_token), .int (Int32.ofInt i_p0_start), .int (Int32.ofInt z15)])), (a_p0_bytes, .inl (G 0, 320, .inl (zA v_p0_bytes)))] := hD
          refine lv_aload_n hx hb dX9_readFigures_55 rfl (lv_at hl 0 rfl) ?_
          refine lv_dup hx hb dX9_readFigures_56 rfl ?_
          refine va_get (D := D) (ci := 9) (v := .int (Int32.ofInt z8)) (C := RX9) (T := TX9) (N := 6) hx hb hts inX9_readFigures_X9 hown hK hP 0 rfl rfl 2 (by decide) (hts _ mwX9_readFigures_2) (fun _ h9 => h9) rfl dX9_readFigures_57 ?_
          refine lv_iconst (v := Int32.ofInt (1 : Int)) hx hb dX9_readFigures_60 (by decide) ?_
          refine lv_iadd hx hb dX9_readFigures_61 (z_ci (Int32.ofInt_add z8 (1 : Int)) ?_)
          refine z_topi (fun z16 ez => ?_)
          replace hf := bnd_s hf ez
          clear ez
          refine va_put (D := D) (ci := 9) (v := .int (Int32.ofInt z16)) (ty := .int) (C := RX9) (T := TX9) (N := 6) hx hb hts inX9_readFigures_X9 tyX9 tyX9_ok nmX9 hown hK hP hD hS 0 rfl rfl 2 (by decide) (hts _ mwX9_readFigures_2) (fun _ h9 => h9) rfl (by decide +kernel) rfl rfl (Nat.le_of_ble_eq_true rfl) dX9_readFigures_62 (fun H locs hP hD hS => ?_)
          have hP : va_P D vwCl [(a_p0, .inr (9, [.ref a_p0_bytes, .int (Int32.ofInt i_p0_length), .int (Int32.ofInt z16), .int (Int32.ofInt i_p0_token), .int (Int32.ofInt i_p0_start), .int (Int32.ofInt z15)])), (a_p0_bytes, .inl (G 0, 320, .inl (zA v_p0_bytes)))] H := hP
          have hD : va_D A [(a_p0, .inr (9, [.ref a_p0_bytes, .int (Int32.ofInt i_p0_length), .int (Int32.ofInt z16), .int (Int32.ofInt i_p0_token), .int (Int32.ofInt i_p0_start), .int (Int32.ofInt z15)])), (a_p0_bytes, .inl (G 0, 320, .inl (zA v_p0_bytes)))] := hD
          refine lv_goto (tgt := 5) hx hb dX9_readFigures_65 (by decide) ?_
          exact ih5 _ _ _ _ _ (lv_sub hl [0] rfl) hP hD hS hf
  exact hB10 _ _ _ _ _ _ (lv_sub hl [0] rfl) hP hD hS hf

noncomputable def B_X9_readToken_0 (i_p0_length : Int) (J2 : Int → Option (Int × Int × Int × Int)) (v_p0_bytes : (Int → Int)) (again0 : Int → Option (Int × Int × Int × Int)) (z20 : Int) : Option (Int × Int × Int × Int) := (ck (z_r32 z20) (ck (z_r32 i_p0_length) (if i_p0_length ≤ z20 then (J2 z20) else (ck (z_ix z20 320) (ck (z_r32 (v_p0_bytes z20)) (if (v_p0_bytes z20) = (32 : Int) then (bnd (z20 + (1 : Int)) (fun (z25 : Int) => (again0 z25))) else (J2 z20)))))))
noncomputable def f_X9_readToken (i_p0_length : Int) (i_p0_at : Int) (i_p0_value : Int) (v_p0_bytes : (Int → Int)) : Option (Int × Int × Int × Int) := (jn (fun (z1 : Int) => (bnd z1 (fun (z3 : Int) => (ck (z_r32 z1) (ck (z_r32 i_p0_length) (if z1 < i_p0_length then (ck (z_ix z1 320) (bd1 (f_X9_isLetter (v_p0_bytes z1)) (fun (z6 : Int) => (ck (z_r32 z6) (if z6 = (0 : Int) then (ck (z_ix z1 320) (bd1 (f_X9_isFigure (v_p0_bytes z1)) (fun (z8 : Int) => (ck (z_r32 z8) (if z8 = (0 : Int) then (ck (z_ix z1 320) (ck (z_r32 (v_p0_bytes z1)) (if (v_p0_bytes z1) = (59 : Int) then (bnd (z1 + (1 : Int)) (fun (z12 : Int) => (bnd (3 : Int) (fun (z13 : Int) => (some (z12, z13, z3, i_p0_value)))))) else (bnd (4 : Int) (fun (z11 : Int) => (some (z1, z11, z3, i_p0_value))))))) else (bd3 (f_X9_readFigures i_p0_length z1 z3 v_p0_bytes) (fun (z14 : Int) (z15 : Int) (z16 : Int) => (some (z14, z15, z3, z16))))))))) else (bd2 (f_X9_readName i_p0_length z1 v_p0_bytes) (fun (z17 : Int) (z18 : Int) => (some (z17, z18, z3, i_p0_value))))))))) else (bnd (0 : Int) (fun (z19 : Int) => (some (z1, z19, z3, i_p0_value)))))))))) (fun (J2 : Int → Option (Int × Int × Int × Int)) => (lq1 (B_X9_readToken_0 i_p0_length J2 v_p0_bytes) 1000 i_p0_at)))
abbrev rm_X9_readToken : Room := { frames := 2, cells := 0, slots := 0, locals := 40 }
theorem inX9_readToken_X9 : ∀ w ∈ wsX90, w ∈ wsX9_readToken := by first | exact fun w h => List.mem_cons_of_mem _ (List.mem_append_right _ h) | decide +kernel
theorem mwX9_readToken_1 : Cond.fieldLink RX9 19 "LadleKings$Tape" "at" "I" ∈ wsX9_readToken := by first | exact List.mem_of_getElem? (i := 1) rfl | decide +kernel
theorem mwX9_readToken_2 : Cond.fieldLink RX9 25 "LadleKings$Tape" "start" "I" ∈ wsX9_readToken := by first | exact List.mem_of_getElem? (i := 4) rfl | decide +kernel
theorem mwX9_readToken_3 : Cond.fieldLink RX9 15 "LadleKings$Tape" "length" "I" ∈ wsX9_readToken := by first | exact List.mem_of_getElem? (i := 2) rfl | decide +kernel
theorem mwX9_readToken_4 : Cond.fieldLink RX9 9 "LadleKings$Tape" "bytes" "[B" ∈ wsX9_readToken := by first | exact List.mem_of_getElem? (i := 3) rfl | decide +kernel
theorem mwX9_readToken_5 : Cond.fieldLink RX9 22 "LadleKings$Tape" "token" "I" ∈ wsX9_readToken := by first | exact List.mem_of_getElem? (i := 5) rfl | decide +kernel
theorem hdV_yX9_readFigures_RX9 : yX9_readFigures.cls = RX9 ∧ yX9_readFigures.cls ≠ "java/lang/invoke/MethodHandle" ∧ yX9_readFigures.cls ≠ "java/lang/invoke/VarHandle" ∧ (parseMethodDescriptor yX9_readFigures.desc).map (fun d => d.parameters.length) = some 0 := by decide +kernel
theorem hdV_yX9_readName_RX9 : yX9_readName.cls = RX9 ∧ yX9_readName.cls ≠ "java/lang/invoke/MethodHandle" ∧ yX9_readName.cls ≠ "java/lang/invoke/VarHandle" ∧ (parseMethodDescriptor yX9_readName.desc).map (fun d => d.parameters.length) = some 0 := by decide +kernel
set_option maxHeartbeats 8000000 in
set_option maxRecDepth 100000 in
theorem c_X9_readToken (l : Launch) (D : va_G) (G : Nat → ClassId) (sz : Nat) (a_p0 : Nat) (a_p0_bytes : Nat) (i_p0_length : Int) (i_p0_at : Int) (i_p0_token : Int) (i_p0_start : Int) (i_p0_value : Int) (v_p0_bytes : (Int → Int)) (o_i_p0_at : Int) (o_i_p0_token : Int) (o_i_p0_start : Int) (o_i_p0_value : Int) (hf : f_X9_readToken i_p0_length i_p0_at i_p0_value v_p0_bytes = some (o_i_p0_at, o_i_p0_token, o_i_p0_start, o_i_p0_value)) : Met l yX9_readToken wsX9_readToken rm_X9_readToken (pcG D G [.ref a_p0] sz [(a_p0, .inr (9, [.ref a_p0_bytes, .int (Int32.ofInt i_p0_length), .int (Int32.ofInt i_p0_at), .int (Int32.ofInt i_p0_token), .int (Int32.ofInt i_p0_start), .int (Int32.ofInt i_p0_value)])), (a_p0_bytes, .inl (G 0, 320, .inl (zA v_p0_bytes)))]) (qcV D G [(a_p0, .inr (9, [.ref a_p0_bytes, .int (Int32.ofInt i_p0_length), .int (Int32.ofInt o_i_p0_at), .int (Int32.ofInt o_i_p0_token), .int (Int32.ofInt o_i_p0_start), .int (Int32.ofInt o_i_p0_value)])), (a_p0_bytes, .inl (G 0, 320, .inl (zA v_p0_bytes)))] (va_A [(a_p0, .inr (9, [.ref a_p0_bytes, .int (Int32.ofInt i_p0_length), .int (Int32.ofInt i_p0_at), .int (Int32.ofInt i_p0_token), .int (Int32.ofInt i_p0_start), .int (Int32.ofInt i_p0_value)])), (a_p0_bytes, .inl (G 0, 320, .inl (zA v_p0_bytes)))] sz)) 0 0 (va_A [(a_p0, .inr (9, [.ref a_p0_bytes, .int (Int32.ofInt i_p0_length), .int (Int32.ofInt i_p0_at), .int (Int32.ofInt i_p0_token), .int (Int32.ofInt i_p0_start), .int (Int32.ofInt i_p0_value)])), (a_p0_bytes, .inl (G 0, 320, .inl (zA v_p0_bytes)))] sz) := by
  refine Met.ofW (cc := cX9_readToken) (maxL := 1) (ret := none) (by decide) rfl ?_
  intro p e s m args below meth c s₁ B hml hv
  obtain ⟨rfl, hsz, hP, hK, hD0⟩ := hv
  have hx := B.exec
  have hb := B.bytes
  have hr := B.returns
  have hts := atoms_spec (ws := wsX9_readToken) B.pre
  have hown : s.vm.findClass RX9 = some m.cls := findClass_of_methodNamed B.named
  have hlocks := B.notSynchronized
  subst hsz
  have hD := hD0.self (sz := s.heap.size)
  generalize hAe : va_A [(a_p0, .inr (9, [.ref a_p0_bytes, .int (Int32.ofInt i_p0_length), .int (Int32.ofInt i_p0_at), .int (Int32.ofInt i_p0_token), .int (Int32.ofInt i_p0_start), .int (Int32.ofInt i_p0_value)])), (a_p0_bytes, .inl (G 0, 320, .inl (zA v_p0_bytes)))] s.heap.size = A at hD ⊢
  have hA : ∀ q : Nat, s.heap.size ≤ q → A q := fun q h => by rw [← hAe]; exact Or.inr h
  clear hAe hD0
  have hS : va_S A s.heap s.heap [] := va_S.rf
  have hl := lv_entry ([.ref a_p0]) (n := 1) (Nat.le_of_ble_eq_true rfl)
  rw [lg_entry_eq]
  generalize (lg_sl ([.ref a_p0]) ++ List.replicate (1 - (lg_sl ([.ref a_p0])).length) Slot.unset).toArray = ls at hl ⊢
  have hl : lv_has ls 1 [(0, .ref a_p0)] := hl
  refine W_nameQ (fun Q hQ => ?_)
  obtain ⟨H, hH⟩ : ∃ H, H = s.heap := ⟨_, rfl⟩
  replace hS : va_S A s.heap H [] := by rw [hH]; exact hS
  replace hP : va_P D vwCl [(a_p0, .inr (9, [.ref a_p0_bytes, .int (Int32.ofInt i_p0_length), .int (Int32.ofInt i_p0_at), .int (Int32.ofInt i_p0_token), .int (Int32.ofInt i_p0_start), .int (Int32.ofInt i_p0_value)])), (a_p0_bytes, .inl (G 0, 320, .inl (zA v_p0_bytes)))] H := by rw [hH]; exact hP
  rw [← hH]
  clear hH
  unfold f_X9_readToken at hf
  have hq := jn_i hf
  clear hf
  obtain ⟨J2, eJ2, hf⟩ := hq
  have hJ2 : ∀ (z1 : Int) (ls : Array Slot) (H : Heap) (locs : List Loc), lv_has ls 1 [(0, .ref a_p0)] → va_P D vwCl [(a_p0, .inr (9, [.ref a_p0_bytes, .int (Int32.ofInt i_p0_length), .int (Int32.ofInt z1), .int (Int32.ofInt i_p0_token), .int (Int32.ofInt i_p0_start), .int (Int32.ofInt i_p0_value)])), (a_p0_bytes, .inl (G 0, 320, .inl (zA v_p0_bytes)))] H → va_D A [(a_p0, .inr (9, [.ref a_p0_bytes, .int (Int32.ofInt i_p0_length), .int (Int32.ofInt z1), .int (Int32.ofInt i_p0_token), .int (Int32.ofInt i_p0_start), .int (Int32.ofInt i_p0_value)])), (a_p0_bytes, .inl (G 0, 320, .inl (zA v_p0_bytes)))] → va_S A s.heap H locs → J2 z1 = some (o_i_p0_at, o_i_p0_token, o_i_p0_start, o_i_p0_value) → W p l e rm_X9_readToken s m ([.ref a_p0] : List Value).toArray below meth c H locs 0 0 Q (F0 m 38 ls []) := by
    clear hf hl hP hD hS
    intro z1 ls H locs hl hP hD hS hf
    replace hf := jn1_s eJ2 hf
    refine lv_aload_n hx hb dX9_readToken_38 rfl (lv_at hl 0 rfl) ?_
    refine lv_aload_n hx hb dX9_readToken_39 rfl (lv_at hl 0 rfl) ?_
    refine va_get (D := D) (ci := 9) (v := .int (Int32.ofInt z1)) (C := RX9) (T := TX9) (N := 6) hx hb hts inX9_readToken_X9 hown hK hP 0 rfl rfl 2 (by decide) (hts _ mwX9_readToken_1) (fun _ h9 => h9) rfl dX9_readToken_40 ?_
    refine z_topi (fun z3 ez => ?_)
    replace hf := bnd_s hf ez
    clear ez
    refine va_put (D := D) (ci := 9) (v := .int (Int32.ofInt z3)) (ty := .int) (C := RX9) (T := TX9) (N := 6) hx hb hts inX9_readToken_X9 tyX9 tyX9_ok nmX9 hown hK hP hD hS 0 rfl rfl 4 (by decide) (hts _ mwX9_readToken_2) (fun _ h9 => h9) rfl (by decide +kernel) rfl rfl (Nat.le_of_ble_eq_true rfl) dX9_readToken_43 (fun H locs hP hD hS => ?_)
    have hP : va_P D vwCl [(a_p0, .inr (9, [.ref a_p0_bytes, .int (Int32.ofInt i_p0_length), .int (Int32.ofInt z1), .int (Int32.ofInt i_p0_token), .int (Int32.ofInt z3), .int (Int32.ofInt i_p0_value)])), (a_p0_bytes, .inl (G 0, 320, .inl (zA v_p0_bytes)))] H := hP
    have hD : va_D A [(a_p0, .inr (9, [.ref a_p0_bytes, .int (Int32.ofInt i_p0_length), .int (Int32.ofInt z1), .int (Int32.ofInt i_p0_token), .int (Int32.ofInt z3), .int (Int32.ofInt i_p0_value)])), (a_p0_bytes, .inl (G 0, 320, .inl (zA v_p0_bytes)))] := hD
    refine lv_aload_n hx hb dX9_readToken_46 rfl (lv_at hl 0 rfl) ?_
    refine va_get (D := D) (ci := 9) (v := .int (Int32.ofInt z1)) (C := RX9) (T := TX9) (N := 6) hx hb hts inX9_readToken_X9 hown hK hP 0 rfl rfl 2 (by decide) (hts _ mwX9_readToken_1) (fun _ h9 => h9) rfl dX9_readToken_47 ?_
    refine lv_aload_n hx hb dX9_readToken_50 rfl (lv_at hl 0 rfl) ?_
    refine va_get (D := D) (ci := 9) (v := .int (Int32.ofInt i_p0_length)) (C := RX9) (T := TX9) (N := 6) hx hb hts inX9_readToken_X9 hown hK hP 0 rfl rfl 1 (by decide) (hts _ mwX9_readToken_3) (fun _ h9 => h9) rfl dX9_readToken_51 ?_
    have hr3 := ck_c hf
    replace hf := ck_r hf
    have hr4 := ck_c hf
    replace hf := ck_r hf
    refine lv_icmp_lt (tgt := 65) hx hb dX9_readToken_54 (by decide) (fun cc => ?_) (fun cc => ?_)
    ·
      replace hf := ite_t ((z_lt hr3 hr4).mp cc) hf
      clear cc
      refine lv_aload_n hx hb dX9_readToken_65 rfl (lv_at hl 0 rfl) ?_
      refine va_get (D := D) (ci := 9) (v := .ref a_p0_bytes) (C := RX9) (T := TX9) (N := 6) hx hb hts inX9_readToken_X9 hown hK hP 0 rfl rfl 0 (by decide) (hts _ mwX9_readToken_4) (fun _ h9 => h9) rfl dX9_readToken_66 ?_
      refine lv_aload_n hx hb dX9_readToken_69 rfl (lv_at hl 0 rfl) ?_
      refine va_get (D := D) (ci := 9) (v := .int (Int32.ofInt z1)) (C := RX9) (T := TX9) (N := 6) hx hb hts inX9_readToken_X9 hown hK hP 0 rfl rfl 2 (by decide) (hts _ mwX9_readToken_1) (fun _ h9 => h9) rfl dX9_readToken_70 ?_
      have hc := ck_c hf
      replace hf := ck_r hf
      refine va_bald hx hb hK hP 1 0 rfl rfl (z_ix_in hc) dX9_readToken_73 (z_ci (z_ald v_p0_bytes hc) ?_)
      clear hc
      have hq := bd1_s hf
      clear hf
      obtain ⟨z6, hcall, hf⟩ := hq
      refine gnI (va_runS (As := [.int (Int32.ofInt (v_p0_bytes z1))]) (rest := []) ⟨hx, hb, hml, hown, hts⟩ (c_X9_isLetter (l := l) (D := D) (G := G) (sz := H.size) (x0 := (v_p0_bytes z1)) (r := z6) (hf := hcall)) (va_cwS 1 hts gX9_readToken_X9_isLetter rfl rfl rfl (by decide +kernel) ⟨Nat.le_of_ble_eq_true rfl, Nat.le_of_ble_eq_true rfl⟩) (preG_S (hP.sub [] rfl) (hD.sub [] rfl rfl) hK) rfl rfl hl.1 rfl (lv_room (Nat.le_of_ble_eq_true rfl)) dX9_readToken_74 ⟨Nat.le_of_ble_eq_true rfl, Nat.le_of_ble_eq_true rfl⟩) hP hD hS hA [] rfl (fun H locs hP hD hS => ?_)
      clear hcall
      have hr6 := ck_c hf
      replace hf := ck_r hf
      refine lv_if_eq (tgt := 87) hx hb dX9_readToken_77 (by decide) (fun cc => ?_) (fun cc => ?_)
      ·
        replace hf := ite_t ((z_eq0 hr6).mp cc) hf
        clear cc
        refine lv_aload_n hx hb dX9_readToken_87 rfl (lv_at hl 0 rfl) ?_
        refine va_get (D := D) (ci := 9) (v := .ref a_p0_bytes) (C := RX9) (T := TX9) (N := 6) hx hb hts inX9_readToken_X9 hown hK hP 0 rfl rfl 0 (by decide) (hts _ mwX9_readToken_4) (fun _ h9 => h9) rfl dX9_readToken_88 ?_
        refine lv_aload_n hx hb dX9_readToken_91 rfl (lv_at hl 0 rfl) ?_
        refine va_get (D := D) (ci := 9) (v := .int (Int32.ofInt z1)) (C := RX9) (T := TX9) (N := 6) hx hb hts inX9_readToken_X9 hown hK hP 0 rfl rfl 2 (by decide) (hts _ mwX9_readToken_1) (fun _ h9 => h9) rfl dX9_readToken_92 ?_
        have hc := ck_c hf
        replace hf := ck_r hf
        refine va_bald hx hb hK hP 1 0 rfl rfl (z_ix_in hc) dX9_readToken_95 (z_ci (z_ald v_p0_bytes hc) ?_)
        clear hc
        have hq := bd1_s hf
        clear hf
        obtain ⟨z8, hcall, hf⟩ := hq
        refine gnI (va_runS (As := [.int (Int32.ofInt (v_p0_bytes z1))]) (rest := []) ⟨hx, hb, hml, hown, hts⟩ (c_X9_isFigure (l := l) (D := D) (G := G) (sz := H.size) (x0 := (v_p0_bytes z1)) (r := z8) (hf := hcall)) (va_cwS 1 hts gX9_readToken_X9_isFigure rfl rfl rfl (by decide +kernel) ⟨Nat.le_of_ble_eq_true rfl, Nat.le_of_ble_eq_true rfl⟩) (preG_S (hP.sub [] rfl) (hD.sub [] rfl rfl) hK) rfl rfl hl.1 rfl (lv_room (Nat.le_of_ble_eq_true rfl)) dX9_readToken_96 ⟨Nat.le_of_ble_eq_true rfl, Nat.le_of_ble_eq_true rfl⟩) hP hD hS hA [] rfl (fun H locs hP hD hS => ?_)
        clear hcall
        have hr8 := ck_c hf
        replace hf := ck_r hf
        refine lv_if_eq (tgt := 109) hx hb dX9_readToken_99 (by decide) (fun cc => ?_) (fun cc => ?_)
        ·
          replace hf := ite_t ((z_eq0 hr8).mp cc) hf
          clear cc
          refine lv_aload_n hx hb dX9_readToken_109 rfl (lv_at hl 0 rfl) ?_
          refine va_get (D := D) (ci := 9) (v := .ref a_p0_bytes) (C := RX9) (T := TX9) (N := 6) hx hb hts inX9_readToken_X9 hown hK hP 0 rfl rfl 0 (by decide) (hts _ mwX9_readToken_4) (fun _ h9 => h9) rfl dX9_readToken_110 ?_
          refine lv_aload_n hx hb dX9_readToken_113 rfl (lv_at hl 0 rfl) ?_
          refine va_get (D := D) (ci := 9) (v := .int (Int32.ofInt z1)) (C := RX9) (T := TX9) (N := 6) hx hb hts inX9_readToken_X9 hown hK hP 0 rfl rfl 2 (by decide) (hts _ mwX9_readToken_1) (fun _ h9 => h9) rfl dX9_readToken_114 ?_
          have hc := ck_c hf
          replace hf := ck_r hf
          refine va_bald hx hb hK hP 1 0 rfl rfl (z_ix_in hc) dX9_readToken_117 (z_ci (z_ald v_p0_bytes hc) ?_)
          clear hc
          refine lv_bipush (v := Int32.ofInt (59 : Int)) hx hb dX9_readToken_118 (by decide) ?_
          have hr9 := ck_c hf
          replace hf := ck_r hf
          refine lv_icmp_ne (tgt := 141) hx hb dX9_readToken_120 (by decide) (fun cc => ?_) (fun cc => ?_)
          ·
            replace hf := ite_f (fun h9 => cc ((z_eq hr9 (by decide)).mpr h9)) hf
            clear cc
            refine lv_aload_n hx hb dX9_readToken_141 rfl (lv_at hl 0 rfl) ?_
            refine lv_iconst (v := Int32.ofInt (4 : Int)) hx hb dX9_readToken_142 (by decide) ?_
            refine z_topi (fun z11 ez => ?_)
            replace hf := bnd_s hf ez
            clear ez
            refine va_put (D := D) (ci := 9) (v := .int (Int32.ofInt z11)) (ty := .int) (C := RX9) (T := TX9) (N := 6) hx hb hts inX9_readToken_X9 tyX9 tyX9_ok nmX9 hown hK hP hD hS 0 rfl rfl 3 (by decide) (hts _ mwX9_readToken_5) (fun _ h9 => h9) rfl (by decide +kernel) rfl rfl (Nat.le_of_ble_eq_true rfl) dX9_readToken_143 (fun H locs hP hD hS => ?_)
            have hP : va_P D vwCl [(a_p0, .inr (9, [.ref a_p0_bytes, .int (Int32.ofInt i_p0_length), .int (Int32.ofInt z1), .int (Int32.ofInt z11), .int (Int32.ofInt z3), .int (Int32.ofInt i_p0_value)])), (a_p0_bytes, .inl (G 0, 320, .inl (zA v_p0_bytes)))] H := hP
            have hD : va_D A [(a_p0, .inr (9, [.ref a_p0_bytes, .int (Int32.ofInt i_p0_length), .int (Int32.ofInt z1), .int (Int32.ofInt z11), .int (Int32.ofInt z3), .int (Int32.ofInt i_p0_value)])), (a_p0_bytes, .inl (G 0, 320, .inl (zA v_p0_bytes)))] := hD
            obtain ⟨rfl, rfl, rfl, rfl⟩ := ou4 hf
            rw [hQ]
            exact W.vret hx hb hr (fun t ht hW => ⟨⟨(), rfl, trivial, by rw [ht]; exact hP, va_K.moved hW.alike hK, hD⟩, hS.F ht⟩) hS.2.2 dX9_readToken_146
          ·
            replace hf := ite_t ((z_eq hr9 (by decide)).mp cc) hf
            clear cc
            refine lv_aload_n hx hb dX9_readToken_123 rfl (lv_at hl 0 rfl) ?_
            refine lv_dup hx hb dX9_readToken_124 rfl ?_
            refine va_get (D := D) (ci := 9) (v := .int (Int32.ofInt z1)) (C := RX9) (T := TX9) (N := 6) hx hb hts inX9_readToken_X9 hown hK hP 0 rfl rfl 2 (by decide) (hts _ mwX9_readToken_1) (fun _ h9 => h9) rfl dX9_readToken_125 ?_
            refine lv_iconst (v := Int32.ofInt (1 : Int)) hx hb dX9_readToken_128 (by decide) ?_
            refine lv_iadd hx hb dX9_readToken_129 (z_ci (Int32.ofInt_add z1 (1 : Int)) ?_)
            refine z_topi (fun z12 ez => ?_)
            replace hf := bnd_s hf ez
            clear ez
            refine va_put (D := D) (ci := 9) (v := .int (Int32.ofInt z12)) (ty := .int) (C := RX9) (T := TX9) (N := 6) hx hb hts inX9_readToken_X9 tyX9 tyX9_ok nmX9 hown hK hP hD hS 0 rfl rfl 2 (by decide) (hts _ mwX9_readToken_1) (fun _ h9 => h9) rfl (by decide +kernel) rfl rfl (Nat.le_of_ble_eq_true rfl) dX9_readToken_130 (fun H locs hP hD hS => ?_)
            have hP : va_P D vwCl [(a_p0, .inr (9, [.ref a_p0_bytes, .int (Int32.ofInt i_p0_length), .int (Int32.ofInt z12), .int (Int32.ofInt i_p0_token), .int (Int32.ofInt z3), .int (Int32.ofInt i_p0_value)])), (a_p0_bytes, .inl (G 0, 320, .inl (zA v_p0_bytes)))] H := hP
            have hD : va_D A [(a_p0, .inr (9, [.ref a_p0_bytes, .int (Int32.ofInt i_p0_length), .int (Int32.ofInt z12), .int (Int32.ofInt i_p0_token), .int (Int32.ofInt z3), .int (Int32.ofInt i_p0_value)])), (a_p0_bytes, .inl (G 0, 320, .inl (zA v_p0_bytes)))] := hD
            refine lv_aload_n hx hb dX9_readToken_133 rfl (lv_at hl 0 rfl) ?_
            refine lv_iconst (v := Int32.ofInt (3 : Int)) hx hb dX9_readToken_134 (by decide) ?_
            refine z_topi (fun z13 ez => ?_)
            replace hf := bnd_s hf ez
            clear ez
            refine va_put (D := D) (ci := 9) (v := .int (Int32.ofInt z13)) (ty := .int) (C := RX9) (T := TX9) (N := 6) hx hb hts inX9_readToken_X9 tyX9 tyX9_ok nmX9 hown hK hP hD hS 0 rfl rfl 3 (by decide) (hts _ mwX9_readToken_5) (fun _ h9 => h9) rfl (by decide +kernel) rfl rfl (Nat.le_of_ble_eq_true rfl) dX9_readToken_135 (fun H locs hP hD hS => ?_)
            have hP : va_P D vwCl [(a_p0, .inr (9, [.ref a_p0_bytes, .int (Int32.ofInt i_p0_length), .int (Int32.ofInt z12), .int (Int32.ofInt z13), .int (Int32.ofInt z3), .int (Int32.ofInt i_p0_value)])), (a_p0_bytes, .inl (G 0, 320, .inl (zA v_p0_bytes)))] H := hP
            have hD : va_D A [(a_p0, .inr (9, [.ref a_p0_bytes, .int (Int32.ofInt i_p0_length), .int (Int32.ofInt z12), .int (Int32.ofInt z13), .int (Int32.ofInt z3), .int (Int32.ofInt i_p0_value)])), (a_p0_bytes, .inl (G 0, 320, .inl (zA v_p0_bytes)))] := hD
            refine lv_goto (tgt := 146) hx hb dX9_readToken_138 (by decide) ?_
            obtain ⟨rfl, rfl, rfl, rfl⟩ := ou4 hf
            rw [hQ]
            exact W.vret hx hb hr (fun t ht hW => ⟨⟨(), rfl, trivial, by rw [ht]; exact hP, va_K.moved hW.alike hK, hD⟩, hS.F ht⟩) hS.2.2 dX9_readToken_146
        ·
          replace hf := ite_f (fun h9 => cc ((z_eq0 hr8).mpr h9)) hf
          clear cc
          refine lv_aload_n hx hb dX9_readToken_102 rfl (lv_at hl 0 rfl) ?_
          have hq := bd3_s hf
          clear hf
          obtain ⟨z14, z15, z16, hcall, hf⟩ := hq
          refine gsV (ws' := [(a_p0, .inr (9, [.ref a_p0_bytes, .int (Int32.ofInt i_p0_length), .int (Int32.ofInt z14), .int (Int32.ofInt z15), .int (Int32.ofInt z3), .int (Int32.ofInt z16)])), (a_p0_bytes, .inl (G 0, 320, .inl (zA v_p0_bytes)))]) (va_runV (As := []) (rest := []) ⟨hx, hb, hml, hown, hts⟩ (c_X9_readFigures (l := l) (D := D) (G := G) (sz := H.size) (a_p0 := a_p0) (a_p0_bytes := a_p0_bytes) (i_p0_length := i_p0_length) (i_p0_at := z1) (i_p0_token := i_p0_token) (i_p0_start := z3) (i_p0_value := i_p0_value) (v_p0_bytes := v_p0_bytes) (o_i_p0_at := z14) (o_i_p0_token := z15) (o_i_p0_value := z16) (hf := hcall)) (cwV 0 hts gX9_readToken_X9_readFigures rfl rfl rfl hdV_yX9_readFigures_RX9 ⟨Nat.le_of_ble_eq_true rfl, Nat.le_of_ble_eq_true rfl⟩) (preG_V (ci := 9) (q := (RX9, TX9, 6)) (hP.sub [0, 1] rfl) (hD.sub [0, 1] rfl rfl) hK rfl rfl) rfl rfl hl.1 rfl (lv_room (Nat.le_of_ble_eq_true rfl)) dX9_readToken_103 ⟨Nat.le_of_ble_eq_true rfl, Nat.le_of_ble_eq_true rfl⟩) hP hD hS hA [0, 1] rfl rfl rfl (fun H locs hP hD hS => ?_)
          clear hcall
          refine lv_goto (tgt := 146) hx hb dX9_readToken_106 (by decide) ?_
          obtain ⟨rfl, rfl, rfl, rfl⟩ := ou4 hf
          rw [hQ]
          exact W.vret hx hb hr (fun t ht hW => ⟨⟨(), rfl, trivial, by rw [ht]; exact hP, va_K.moved hW.alike hK, hD⟩, hS.F ht⟩) hS.2.2 dX9_readToken_146
      ·
        replace hf := ite_f (fun h9 => cc ((z_eq0 hr6).mpr h9)) hf
        clear cc
        refine lv_aload_n hx hb dX9_readToken_80 rfl (lv_at hl 0 rfl) ?_
        have hq := bd2_s hf
        clear hf
        obtain ⟨z17, z18, hcall, hf⟩ := hq
        refine gsV (ws' := [(a_p0, .inr (9, [.ref a_p0_bytes, .int (Int32.ofInt i_p0_length), .int (Int32.ofInt z17), .int (Int32.ofInt z18), .int (Int32.ofInt z3), .int (Int32.ofInt i_p0_value)])), (a_p0_bytes, .inl (G 0, 320, .inl (zA v_p0_bytes)))]) (va_runV (As := []) (rest := []) ⟨hx, hb, hml, hown, hts⟩ (c_X9_readName (l := l) (D := D) (G := G) (sz := H.size) (a_p0 := a_p0) (a_p0_bytes := a_p0_bytes) (i_p0_length := i_p0_length) (i_p0_at := z1) (i_p0_token := i_p0_token) (i_p0_start := z3) (i_p0_value := i_p0_value) (v_p0_bytes := v_p0_bytes) (o_i_p0_at := z17) (o_i_p0_token := z18) (hf := hcall)) (cwV 0 hts gX9_readToken_X9_readName rfl rfl rfl hdV_yX9_readName_RX9 ⟨Nat.le_of_ble_eq_true rfl, Nat.le_of_ble_eq_true rfl⟩) (preG_V (ci := 9) (q := (RX9, TX9, 6)) (hP.sub [0, 1] rfl) (hD.sub [0, 1] rfl rfl) hK rfl rfl) rfl rfl hl.1 rfl (lv_room (Nat.le_of_ble_eq_true rfl)) dX9_readToken_81 ⟨Nat.le_of_ble_eq_true rfl, Nat.le_of_ble_eq_true rfl⟩) hP hD hS hA [0, 1] rfl rfl rfl (fun H locs hP hD hS => ?_)
        clear hcall
        refine lv_goto (tgt := 146) hx hb dX9_readToken_84 (by decide) ?_
        obtain ⟨rfl, rfl, rfl, rfl⟩ := ou4 hf
        rw [hQ]
        exact W.vret hx hb hr (fun t ht hW => ⟨⟨(), rfl, trivial, by rw [ht]; exact hP, va_K.moved hW.alike hK, hD⟩, hS.F ht⟩) hS.2.2 dX9_readToken_146
    ·
      replace hf := ite_f (fun h9 => cc ((z_lt hr3 hr4).mpr h9)) hf
      clear cc
      refine lv_aload_n hx hb dX9_readToken_57 rfl (lv_at hl 0 rfl) ?_
      refine lv_iconst (v := Int32.ofInt (0 : Int)) hx hb dX9_readToken_58 (by decide) ?_
      refine z_topi (fun z19 ez => ?_)
      replace hf := bnd_s hf ez
      clear ez
      refine va_put (D := D) (ci := 9) (v := .int (Int32.ofInt z19)) (ty := .int) (C := RX9) (T := TX9) (N := 6) hx hb hts inX9_readToken_X9 tyX9 tyX9_ok nmX9 hown hK hP hD hS 0 rfl rfl 3 (by decide) (hts _ mwX9_readToken_5) (fun _ h9 => h9) rfl (by decide +kernel) rfl rfl (Nat.le_of_ble_eq_true rfl) dX9_readToken_59 (fun H locs hP hD hS => ?_)
      have hP : va_P D vwCl [(a_p0, .inr (9, [.ref a_p0_bytes, .int (Int32.ofInt i_p0_length), .int (Int32.ofInt z1), .int (Int32.ofInt z19), .int (Int32.ofInt z3), .int (Int32.ofInt i_p0_value)])), (a_p0_bytes, .inl (G 0, 320, .inl (zA v_p0_bytes)))] H := hP
      have hD : va_D A [(a_p0, .inr (9, [.ref a_p0_bytes, .int (Int32.ofInt i_p0_length), .int (Int32.ofInt z1), .int (Int32.ofInt z19), .int (Int32.ofInt z3), .int (Int32.ofInt i_p0_value)])), (a_p0_bytes, .inl (G 0, 320, .inl (zA v_p0_bytes)))] := hD
      refine lv_goto (tgt := 146) hx hb dX9_readToken_62 (by decide) ?_
      obtain ⟨rfl, rfl, rfl, rfl⟩ := ou4 hf
      rw [hQ]
      exact W.vret hx hb hr (fun t ht hW => ⟨⟨(), rfl, trivial, by rw [ht]; exact hP, va_K.moved hW.alike hK, hD⟩, hS.F ht⟩) hS.2.2 dX9_readToken_146
  have hq := lq1_i hf
  clear hf
  obtain ⟨B21, eB21, NB21, hf⟩ := hq
  have hB21 : ∀ (n : Nat) (z20 : Int) (ls : Array Slot) (H : Heap) (locs : List Loc), lv_has ls 1 [(0, .ref a_p0)] → va_P D vwCl [(a_p0, .inr (9, [.ref a_p0_bytes, .int (Int32.ofInt i_p0_length), .int (Int32.ofInt z20), .int (Int32.ofInt i_p0_token), .int (Int32.ofInt i_p0_start), .int (Int32.ofInt i_p0_value)])), (a_p0_bytes, .inl (G 0, 320, .inl (zA v_p0_bytes)))] H → va_D A [(a_p0, .inr (9, [.ref a_p0_bytes, .int (Int32.ofInt i_p0_length), .int (Int32.ofInt z20), .int (Int32.ofInt i_p0_token), .int (Int32.ofInt i_p0_start), .int (Int32.ofInt i_p0_value)])), (a_p0_bytes, .inl (G 0, 320, .inl (zA v_p0_bytes)))] → va_S A s.heap H locs → lq1 B21 n z20 = some (o_i_p0_at, o_i_p0_token, o_i_p0_start, o_i_p0_value) → W p l e rm_X9_readToken s m ([.ref a_p0] : List Value).toArray below meth c H locs 0 0 Q (F0 m 0 ls []) := by
    clear hf hl hP hD hS
    intro n
    induction n with
    | zero =>
      intro z20 ls H locs hl hP hD hS hf
      exact (lq1_0 hf).elim
    | succ n ih0 =>
      intro z20 ls H locs hl hP hD hS hf
      replace hf := lq1_s eB21 hf
      unfold B_X9_readToken_0 at hf
      refine lv_aload_n hx hb dX9_readToken_0 rfl (lv_at hl 0 rfl) ?_
      refine va_get (D := D) (ci := 9) (v := .int (Int32.ofInt z20)) (C := RX9) (T := TX9) (N := 6) hx hb hts inX9_readToken_X9 hown hK hP 0 rfl rfl 2 (by decide) (hts _ mwX9_readToken_1) (fun _ h9 => h9) rfl dX9_readToken_1 ?_
      refine lv_aload_n hx hb dX9_readToken_4 rfl (lv_at hl 0 rfl) ?_
      refine va_get (D := D) (ci := 9) (v := .int (Int32.ofInt i_p0_length)) (C := RX9) (T := TX9) (N := 6) hx hb hts inX9_readToken_X9 hown hK hP 0 rfl rfl 1 (by decide) (hts _ mwX9_readToken_3) (fun _ h9 => h9) rfl dX9_readToken_5 ?_
      have hr21 := ck_c hf
      replace hf := ck_r hf
      have hr22 := ck_c hf
      replace hf := ck_r hf
      refine lv_icmp_ge (tgt := 38) hx hb dX9_readToken_8 (by decide) (fun cc => ?_) (fun cc => ?_)
      ·
        replace hf := ite_t ((z_le hr22 hr21).mp cc) hf
        clear cc
        exact hJ2 _ _ _ _ (lv_sub hl [0] rfl) hP hD hS hf
      ·
        replace hf := ite_f (fun h9 => cc ((z_le hr22 hr21).mpr h9)) hf
        clear cc
        refine lv_aload_n hx hb dX9_readToken_11 rfl (lv_at hl 0 rfl) ?_
        refine va_get (D := D) (ci := 9) (v := .ref a_p0_bytes) (C := RX9) (T := TX9) (N := 6) hx hb hts inX9_readToken_X9 hown hK hP 0 rfl rfl 0 (by decide) (hts _ mwX9_readToken_4) (fun _ h9 => h9) rfl dX9_readToken_12 ?_
        refine lv_aload_n hx hb dX9_readToken_15 rfl (lv_at hl 0 rfl) ?_
        refine va_get (D := D) (ci := 9) (v := .int (Int32.ofInt z20)) (C := RX9) (T := TX9) (N := 6) hx hb hts inX9_readToken_X9 hown hK hP 0 rfl rfl 2 (by decide) (hts _ mwX9_readToken_1) (fun _ h9 => h9) rfl dX9_readToken_16 ?_
        have hc := ck_c hf
        replace hf := ck_r hf
        refine va_bald hx hb hK hP 1 0 rfl rfl (z_ix_in hc) dX9_readToken_19 (z_ci (z_ald v_p0_bytes hc) ?_)
        clear hc
        refine lv_bipush (v := Int32.ofInt (32 : Int)) hx hb dX9_readToken_20 (by decide) ?_
        have hr23 := ck_c hf
        replace hf := ck_r hf
        refine lv_icmp_ne (tgt := 38) hx hb dX9_readToken_22 (by decide) (fun cc => ?_) (fun cc => ?_)
        ·
          replace hf := ite_f (fun h9 => cc ((z_eq hr23 (by decide)).mpr h9)) hf
          clear cc
          exact hJ2 _ _ _ _ (lv_sub hl [0] rfl) hP hD hS hf
        ·
          replace hf := ite_t ((z_eq hr23 (by decide)).mp cc) hf
          clear cc
          refine lv_aload_n hx hb dX9_readToken_25 rfl (lv_at hl 0 rfl) ?_
          refine lv_dup hx hb dX9_readToken_26 rfl ?_
          refine va_get (D := D) (ci := 9) (v := .int (Int32.ofInt z20)) (C := RX9) (T := TX9) (N := 6) hx hb hts inX9_readToken_X9 hown hK hP 0 rfl rfl 2 (by decide) (hts _ mwX9_readToken_1) (fun _ h9 => h9) rfl dX9_readToken_27 ?_
          refine lv_iconst (v := Int32.ofInt (1 : Int)) hx hb dX9_readToken_30 (by decide) ?_
          refine lv_iadd hx hb dX9_readToken_31 (z_ci (Int32.ofInt_add z20 (1 : Int)) ?_)
          refine z_topi (fun z25 ez => ?_)
          replace hf := bnd_s hf ez
          clear ez
          refine va_put (D := D) (ci := 9) (v := .int (Int32.ofInt z25)) (ty := .int) (C := RX9) (T := TX9) (N := 6) hx hb hts inX9_readToken_X9 tyX9 tyX9_ok nmX9 hown hK hP hD hS 0 rfl rfl 2 (by decide) (hts _ mwX9_readToken_1) (fun _ h9 => h9) rfl (by decide +kernel) rfl rfl (Nat.le_of_ble_eq_true rfl) dX9_readToken_32 (fun H locs hP hD hS => ?_)
          have hP : va_P D vwCl [(a_p0, .inr (9, [.ref a_p0_bytes, .int (Int32.ofInt i_p0_length), .int (Int32.ofInt z25), .int (Int32.ofInt i_p0_token), .int (Int32.ofInt i_p0_start), .int (Int32.ofInt i_p0_value)])), (a_p0_bytes, .inl (G 0, 320, .inl (zA v_p0_bytes)))] H := hP
          have hD : va_D A [(a_p0, .inr (9, [.ref a_p0_bytes, .int (Int32.ofInt i_p0_length), .int (Int32.ofInt z25), .int (Int32.ofInt i_p0_token), .int (Int32.ofInt i_p0_start), .int (Int32.ofInt i_p0_value)])), (a_p0_bytes, .inl (G 0, 320, .inl (zA v_p0_bytes)))] := hD
          refine lv_goto (tgt := 0) hx hb dX9_readToken_35 (by decide) ?_
          exact ih0 _ _ _ _ (lv_sub hl [0] rfl) hP hD hS hf
  exact hB21 _ _ _ _ _ (lv_sub hl [0] rfl) hP hD hS hf

noncomputable def f_J0_coder_7d493 (x0 : Int) : Option (Int) := (if (1 : Int) = (0 : Int) then (some (1 : Int)) else (ck (z_ix x0 11) (some (0 : Int))))
abbrev rm_J0_coder_7d493 : Room := { frames := 0, cells := 0, slots := 0, locals := 0 }
theorem mwJ0_coder_7d493_0 : Cond.fieldLink RJ0 38 "java/lang/String" "COMPACT_STRINGS" "Z" ∈ wsJ0_coder_7d493 := by first | exact List.mem_of_getElem? (i := 1) rfl | decide +kernel
theorem mwJ0_coder_7d493_1 : Cond.fieldLink RJ0 15 "java/lang/String" "coder" "B" ∈ wsJ0_coder_7d493 := by first | exact List.mem_of_getElem? (i := 2) rfl | decide +kernel
set_option maxHeartbeats 8000000 in
set_option maxRecDepth 100000 in
theorem c_J0_coder_7d493 (l : Launch) (D : va_G) (G : Nat → ClassId) (sz : Nat) (adT adK adV : Nat → Nat) (x0 : Int) (r : Int) (hf : f_J0_coder_7d493 x0 = some r) : Met l yJ0_coder_7d493 wsJ0_coder_7d493 rm_J0_coder_7d493 (pcGE D G adT adK adV [.ref (adK (x0).toNat)] sz []) (qcI D G (Int32.ofInt r) [] (va_A [] sz)) 0 0 (va_A [] sz) := by
  refine Met.ofW (cc := cJ0_coder_7d493) (maxL := 1) (ret := (some .byte)) (by decide) rfl ?_
  intro p e s m args below meth c s₁ B hml hv
  obtain ⟨rfl, hsz, hP, hK, hD0, hE⟩ := hv
  have hx := B.exec
  have hb := B.bytes
  have hr := B.returns
  have hts := atoms_spec (ws := wsJ0_coder_7d493) B.pre
  have hown : s.vm.findClass RJ0 = some m.cls := findClass_of_methodNamed B.named
  have hlocks := B.notSynchronized
  subst hsz
  have hD := hD0.self (sz := s.heap.size)
  generalize hAe : va_A [] s.heap.size = A at hD hE ⊢
  have hA : ∀ q : Nat, s.heap.size ≤ q → A q := fun q h => by rw [← hAe]; exact Or.inr h
  clear hAe hD0
  have hS : va_S A s.heap s.heap [] := va_S.rf
  have hl := lv_entry ([.ref (adK (x0).toNat)]) (n := 1) (Nat.le_of_ble_eq_true rfl)
  rw [lg_entry_eq]
  generalize (lg_sl ([.ref (adK (x0).toNat)]) ++ List.replicate (1 - (lg_sl ([.ref (adK (x0).toNat)])).length) Slot.unset).toArray = ls at hl ⊢
  have hl : lv_has ls 1 [(0, .ref (adK (x0).toNat))] := hl
  refine W_nameQ (fun Q hQ => ?_)
  obtain ⟨H, hH⟩ : ∃ H, H = s.heap := ⟨_, rfl⟩
  replace hS : va_S A s.heap H [] := by rw [hH]; exact hS
  replace hP : va_P D vwCl [] H := by rw [hH]; exact hP
  rw [← hH]
  clear hH
  unfold f_J0_coder_7d493 at hf
  refine va_gets (C := "java/lang/String") (n := "COMPACT_STRINGS") (d := "Z") (v := .int 1) hx hb hE.2.1 hS hown (hts _ mwJ0_coder_7d493_0) (fun _ h9 => h9) dJ0_coder_7d493_0 (z_ci (show Int32.ofInt (1 : Int) = _ from by decide) ?_)
  refine lv_if_eq (tgt := 13) hx hb dJ0_coder_7d493_3 (by decide) (fun cc => ?_) (fun cc => ?_)
  ·
    replace hf := ite_t ((z_eq0 (by decide)).mp cc) hf
    clear cc
    refine lv_iconst (v := Int32.ofInt (1 : Int)) hx hb dJ0_coder_7d493_13 (by decide) ?_
    obtain rfl := ou1 hf
    rw [hQ]
    exact W.zret hx hb hr rfl (fun t ht hW => ⟨⟨_, (), rfl, rfl, by rw [ht]; exact hP, va_K.moved hW.alike hK, hD⟩, hS.F ht⟩) hS.2.2 dJ0_coder_7d493_14
  ·
    replace hf := ite_f (fun h9 => cc ((z_eq0 (by decide)).mpr h9)) hf
    clear cc
    refine lv_aload_n hx hb dJ0_coder_7d493_6 rfl (lv_at hl 0 rfl) ?_
    have hr0 := ck_c hf
    replace hf := ck_r hf
    refine vk_getf hx hb (hE.2.2.2.1.1 _ (z_ix_n hr0)).2.1 hS hown (hts _ mwJ0_coder_7d493_1) (fun _ h9 => h9) dJ0_coder_7d493_7 (z_ci (show Int32.ofInt (0 : Int) = _ from by decide) ?_)
    refine lv_goto (tgt := 14) hx hb dJ0_coder_7d493_10 (by decide) ?_
    obtain rfl := ou1 hf
    rw [hQ]
    exact W.zret hx hb hr rfl (fun t ht hW => ⟨⟨_, (), rfl, rfl, by rw [ht]; exact hP, va_K.moved hW.alike hK, hD⟩, hS.F ht⟩) hS.2.2 dJ0_coder_7d493_14

noncomputable def f_J0_length_8abf5 (x0 : Int) : Option (Int) := (ck (z_ix x0 11) (bd1 (f_J0_coder_7d493 x0) (fun (z2 : Int) => (some (z_shr (z_sl x0) z2)))))
abbrev rm_J0_length_8abf5 : Room := { frames := 1, cells := 0, slots := 0, locals := 20 }
theorem mwJ0_length_8abf5_0 : Cond.fieldLink RJ0 9 "java/lang/String" "value" "[B" ∈ wsJ0_length_8abf5 := by first | exact List.mem_of_getElem? (i := 1) rfl | decide +kernel
theorem hdV_yJ0_coder_7d493_RJ0 : yJ0_coder_7d493.cls = RJ0 ∧ yJ0_coder_7d493.cls ≠ "java/lang/invoke/MethodHandle" ∧ yJ0_coder_7d493.cls ≠ "java/lang/invoke/VarHandle" ∧ (parseMethodDescriptor yJ0_coder_7d493.desc).map (fun d => d.parameters.length) = some 0 := by decide +kernel
set_option maxHeartbeats 8000000 in
set_option maxRecDepth 100000 in
theorem c_J0_length_8abf5 (l : Launch) (D : va_G) (G : Nat → ClassId) (sz : Nat) (adT adK adV : Nat → Nat) (x0 : Int) (r : Int) (hf : f_J0_length_8abf5 x0 = some r) : Met l yJ0_length_8abf5 wsJ0_length_8abf5 rm_J0_length_8abf5 (pcGE D G adT adK adV [.ref (adK (x0).toNat)] sz []) (qcI D G (Int32.ofInt r) [] (va_A [] sz)) 0 0 (va_A [] sz) := by
  refine Met.ofW (cc := cJ0_length_8abf5) (maxL := 1) (ret := (some .int)) (by decide) rfl ?_
  intro p e s m args below meth c s₁ B hml hv
  obtain ⟨rfl, hsz, hP, hK, hD0, hE⟩ := hv
  have hx := B.exec
  have hb := B.bytes
  have hr := B.returns
  have hts := atoms_spec (ws := wsJ0_length_8abf5) B.pre
  have hown : s.vm.findClass RJ0 = some m.cls := findClass_of_methodNamed B.named
  have hlocks := B.notSynchronized
  subst hsz
  have hD := hD0.self (sz := s.heap.size)
  generalize hAe : va_A [] s.heap.size = A at hD hE ⊢
  have hA : ∀ q : Nat, s.heap.size ≤ q → A q := fun q h => by rw [← hAe]; exact Or.inr h
  clear hAe hD0
  have hS : va_S A s.heap s.heap [] := va_S.rf
  have hl := lv_entry ([.ref (adK (x0).toNat)]) (n := 1) (Nat.le_of_ble_eq_true rfl)
  rw [lg_entry_eq]
  generalize (lg_sl ([.ref (adK (x0).toNat)]) ++ List.replicate (1 - (lg_sl ([.ref (adK (x0).toNat)])).length) Slot.unset).toArray = ls at hl ⊢
  have hl : lv_has ls 1 [(0, .ref (adK (x0).toNat))] := hl
  refine W_nameQ (fun Q hQ => ?_)
  obtain ⟨H, hH⟩ : ∃ H, H = s.heap := ⟨_, rfl⟩
  replace hS : va_S A s.heap H [] := by rw [hH]; exact hS
  replace hP : va_P D vwCl [] H := by rw [hH]; exact hP
  rw [← hH]
  clear hH
  unfold f_J0_length_8abf5 at hf
  refine lv_aload_n hx hb dJ0_length_8abf5_0 rfl (lv_at hl 0 rfl) ?_
  have hr0 := ck_c hf
  replace hf := ck_r hf
  refine vk_getf hx hb (hE.2.2.2.1.1 _ (z_ix_n hr0)).2.2.1 hS hown (hts _ mwJ0_length_8abf5_0) (fun _ h9 => h9) dJ0_length_8abf5_1 ?_
  refine va_tlen (v := Int32.ofInt (z_sl x0)) hx hb (hE.2.2.2.1.1 _ (z_ix_n hr0)).2.2.2 hS (z_len _) dJ0_length_8abf5_4 ?_
  refine lv_aload_n hx hb dJ0_length_8abf5_5 rfl (lv_at hl 0 rfl) ?_
  have hq := bd1_s hf
  clear hf
  obtain ⟨z2, hcall, hf⟩ := hq
  refine gnI (va_runV (As := []) (rest := [.int (Int32.ofInt (z_sl x0))]) ⟨hx, hb, hml, hown, hts⟩ (c_J0_coder_7d493 (l := l) (D := D) (G := G) (sz := H.size) (adT := adT) (adK := adK) (adV := adV) (x0 := x0) (r := z2) (hf := hcall)) (cwV 0 hts gJ0_length_8abf5_J0_coder_7d493 rfl rfl rfl hdV_yJ0_coder_7d493_RJ0 ⟨Nat.le_of_ble_eq_true rfl, Nat.le_of_ble_eq_true rfl⟩) (preGE_K (z_ix_n hr0) hK hE hS hA) rfl rfl hl.1 rfl (lv_room (Nat.le_of_ble_eq_true rfl)) dJ0_length_8abf5_6 ⟨Nat.le_of_ble_eq_true rfl, Nat.le_of_ble_eq_true rfl⟩) hP hD hS hA [] rfl (fun H locs hP hD hS => ?_)
  clear hcall
  refine lv_ishr hx hb dJ0_length_8abf5_9 (z_ci (z_shr_e (z_sl x0) z2) ?_)
  obtain rfl := ou1 hf
  rw [hQ]
  exact W.iret hx hb hr (fun t ht hW => ⟨⟨_, (), rfl, rfl, by rw [ht]; exact hP, va_K.moved hW.alike hK, hD⟩, hS.F ht⟩) hS.2.2 dJ0_length_8abf5_10

noncomputable def f_J0_isLatin1_aae02 (x0 : Int) : Option (Int) := (if (1 : Int) = (0 : Int) then (some (0 : Int)) else (ck (z_ix x0 11) (if (0 : Int) = (0 : Int) then (some (1 : Int)) else (some (0 : Int)))))
abbrev rm_J0_isLatin1_aae02 : Room := { frames := 0, cells := 0, slots := 0, locals := 0 }
theorem mwJ0_isLatin1_aae02_0 : Cond.fieldLink RJ0 38 "java/lang/String" "COMPACT_STRINGS" "Z" ∈ wsJ0_isLatin1_aae02 := by first | exact List.mem_of_getElem? (i := 1) rfl | decide +kernel
theorem mwJ0_isLatin1_aae02_1 : Cond.fieldLink RJ0 15 "java/lang/String" "coder" "B" ∈ wsJ0_isLatin1_aae02 := by first | exact List.mem_of_getElem? (i := 2) rfl | decide +kernel
set_option maxHeartbeats 8000000 in
set_option maxRecDepth 100000 in
theorem c_J0_isLatin1_aae02 (l : Launch) (D : va_G) (G : Nat → ClassId) (sz : Nat) (adT adK adV : Nat → Nat) (x0 : Int) (r : Int) (hf : f_J0_isLatin1_aae02 x0 = some r) : Met l yJ0_isLatin1_aae02 wsJ0_isLatin1_aae02 rm_J0_isLatin1_aae02 (pcGE D G adT adK adV [.ref (adK (x0).toNat)] sz []) (qcI D G (Int32.ofInt r) [] (va_A [] sz)) 0 0 (va_A [] sz) := by
  refine Met.ofW (cc := cJ0_isLatin1_aae02) (maxL := 1) (ret := (some .boolean)) (by decide) rfl ?_
  intro p e s m args below meth c s₁ B hml hv
  obtain ⟨rfl, hsz, hP, hK, hD0, hE⟩ := hv
  have hx := B.exec
  have hb := B.bytes
  have hr := B.returns
  have hts := atoms_spec (ws := wsJ0_isLatin1_aae02) B.pre
  have hown : s.vm.findClass RJ0 = some m.cls := findClass_of_methodNamed B.named
  have hlocks := B.notSynchronized
  subst hsz
  have hD := hD0.self (sz := s.heap.size)
  generalize hAe : va_A [] s.heap.size = A at hD hE ⊢
  have hA : ∀ q : Nat, s.heap.size ≤ q → A q := fun q h => by rw [← hAe]; exact Or.inr h
  clear hAe hD0
  have hS : va_S A s.heap s.heap [] := va_S.rf
  have hl := lv_entry ([.ref (adK (x0).toNat)]) (n := 1) (Nat.le_of_ble_eq_true rfl)
  rw [lg_entry_eq]
  generalize (lg_sl ([.ref (adK (x0).toNat)]) ++ List.replicate (1 - (lg_sl ([.ref (adK (x0).toNat)])).length) Slot.unset).toArray = ls at hl ⊢
  have hl : lv_has ls 1 [(0, .ref (adK (x0).toNat))] := hl
  refine W_nameQ (fun Q hQ => ?_)
  obtain ⟨H, hH⟩ : ∃ H, H = s.heap := ⟨_, rfl⟩
  replace hS : va_S A s.heap H [] := by rw [hH]; exact hS
  replace hP : va_P D vwCl [] H := by rw [hH]; exact hP
  rw [← hH]
  clear hH
  unfold f_J0_isLatin1_aae02 at hf
  refine va_gets (C := "java/lang/String") (n := "COMPACT_STRINGS") (d := "Z") (v := .int 1) hx hb hE.2.1 hS hown (hts _ mwJ0_isLatin1_aae02_0) (fun _ h9 => h9) dJ0_isLatin1_aae02_0 (z_ci (show Int32.ofInt (1 : Int) = _ from by decide) ?_)
  refine lv_if_eq (tgt := 17) hx hb dJ0_isLatin1_aae02_3 (by decide) (fun cc => ?_) (fun cc => ?_)
  ·
    replace hf := ite_t ((z_eq0 (by decide)).mp cc) hf
    clear cc
    refine lv_iconst (v := Int32.ofInt (0 : Int)) hx hb dJ0_isLatin1_aae02_17 (by decide) ?_
    obtain rfl := ou1 hf
    rw [hQ]
    exact W.zret hx hb hr rfl (fun t ht hW => ⟨⟨_, (), rfl, rfl, by rw [ht]; exact hP, va_K.moved hW.alike hK, hD⟩, hS.F ht⟩) hS.2.2 dJ0_isLatin1_aae02_18
  ·
    replace hf := ite_f (fun h9 => cc ((z_eq0 (by decide)).mpr h9)) hf
    clear cc
    refine lv_aload_n hx hb dJ0_isLatin1_aae02_6 rfl (lv_at hl 0 rfl) ?_
    have hr0 := ck_c hf
    replace hf := ck_r hf
    refine vk_getf hx hb (hE.2.2.2.1.1 _ (z_ix_n hr0)).2.1 hS hown (hts _ mwJ0_isLatin1_aae02_1) (fun _ h9 => h9) dJ0_isLatin1_aae02_7 (z_ci (show Int32.ofInt (0 : Int) = _ from by decide) ?_)
    refine lv_if_ne (tgt := 17) hx hb dJ0_isLatin1_aae02_10 (by decide) (fun cc => ?_) (fun cc => ?_)
    ·
      replace hf := ite_f (fun h9 => cc ((z_eq0 (by decide)).mpr h9)) hf
      clear cc
      refine lv_iconst (v := Int32.ofInt (0 : Int)) hx hb dJ0_isLatin1_aae02_17 (by decide) ?_
      obtain rfl := ou1 hf
      rw [hQ]
      exact W.zret hx hb hr rfl (fun t ht hW => ⟨⟨_, (), rfl, rfl, by rw [ht]; exact hP, va_K.moved hW.alike hK, hD⟩, hS.F ht⟩) hS.2.2 dJ0_isLatin1_aae02_18
    ·
      replace hf := ite_t ((z_eq0 (by decide)).mp cc) hf
      clear cc
      refine lv_iconst (v := Int32.ofInt (1 : Int)) hx hb dJ0_isLatin1_aae02_13 (by decide) ?_
      refine lv_goto (tgt := 18) hx hb dJ0_isLatin1_aae02_14 (by decide) ?_
      obtain rfl := ou1 hf
      rw [hQ]
      exact W.zret hx hb hr rfl (fun t ht hW => ⟨⟨_, (), rfl, rfl, by rw [ht]; exact hP, va_K.moved hW.alike hK, hD⟩, hS.F ht⟩) hS.2.2 dJ0_isLatin1_aae02_18

noncomputable def f_J3_checkIndex_8e157 (x0 : Int) (x1 : Int) : Option (Int) := (ck (z_r32 x0) (if x0 < (0 : Int) then none else (ck (z_r32 x1) (if x0 < x1 then (some x0) else none))))
abbrev rm_J3_checkIndex_8e157 : Room := { frames := 0, cells := 0, slots := 0, locals := 0 }
set_option maxHeartbeats 8000000 in
set_option maxRecDepth 100000 in
theorem c_J3_checkIndex_8e157 (l : Launch) (D : va_G) (G : Nat → ClassId) (sz : Nat) (adT adK adV : Nat → Nat) (x0 : Int) (x1 : Int) (x2 : Nat) (r : Int) (hf : f_J3_checkIndex_8e157 x0 x1 = some r) : Met l yJ3_checkIndex_8e157 wsJ3_checkIndex_8e157 rm_J3_checkIndex_8e157 (pcGE D G adT adK adV [.int (Int32.ofInt x0), .int (Int32.ofInt x1), .ref x2] sz []) (qcI D G (Int32.ofInt r) [] (va_A [] sz)) 0 0 (va_A [] sz) := by
  refine Met.ofW (cc := cJ3_checkIndex_8e157) (maxL := 3) (ret := (some .int)) (by decide) rfl ?_
  intro p e s m args below meth c s₁ B hml hv
  obtain ⟨rfl, hsz, hP, hK, hD0, hE⟩ := hv
  have hx := B.exec
  have hb := B.bytes
  have hr := B.returns
  have hts := atoms_spec (ws := wsJ3_checkIndex_8e157) B.pre
  have hown : s.vm.findClass RJ3 = some m.cls := findClass_of_methodNamed B.named
  have hlocks := B.notSynchronized
  subst hsz
  have hD := hD0.self (sz := s.heap.size)
  generalize hAe : va_A [] s.heap.size = A at hD hE ⊢
  have hA : ∀ q : Nat, s.heap.size ≤ q → A q := fun q h => by rw [← hAe]; exact Or.inr h
  clear hAe hD0
  have hS : va_S A s.heap s.heap [] := va_S.rf
  have hl := lv_entry ([.int (Int32.ofInt x0), .int (Int32.ofInt x1), .ref x2]) (n := 3) (Nat.le_of_ble_eq_true rfl)
  rw [lg_entry_eq]
  generalize (lg_sl ([.int (Int32.ofInt x0), .int (Int32.ofInt x1), .ref x2]) ++ List.replicate (3 - (lg_sl ([.int (Int32.ofInt x0), .int (Int32.ofInt x1), .ref x2])).length) Slot.unset).toArray = ls at hl ⊢
  have hl : lv_has ls 3 [(0, .int (Int32.ofInt x0)), (1, .int (Int32.ofInt x1)), (2, .ref x2)] := hl
  refine W_nameQ (fun Q hQ => ?_)
  obtain ⟨H, hH⟩ : ∃ H, H = s.heap := ⟨_, rfl⟩
  replace hS : va_S A s.heap H [] := by rw [hH]; exact hS
  replace hP : va_P D vwCl [] H := by rw [hH]; exact hP
  rw [← hH]
  clear hH
  unfold f_J3_checkIndex_8e157 at hf
  refine lv_iload_n hx hb dJ3_checkIndex_8e157_0 rfl (lv_at hl 0 rfl) ?_
  have hr0 := ck_c hf
  replace hf := ck_r hf
  refine lv_if_lt (tgt := 9) hx hb dJ3_checkIndex_8e157_1 (by decide) (fun cc => ?_) (fun cc => ?_)
  ·
    replace hf := ite_t ((z_lt0 hr0).mp cc) hf
    clear cc
    cases hf
  ·
    replace hf := ite_f (fun h9 => cc ((z_lt0 hr0).mpr h9)) hf
    clear cc
    refine lv_iload_n hx hb dJ3_checkIndex_8e157_4 rfl (lv_at hl 0 rfl) ?_
    refine lv_iload_n hx hb dJ3_checkIndex_8e157_5 rfl (lv_at hl 1 rfl) ?_
    have hr1 := ck_c hf
    replace hf := ck_r hf
    refine lv_icmp_lt (tgt := 16) hx hb dJ3_checkIndex_8e157_6 (by decide) (fun cc => ?_) (fun cc => ?_)
    ·
      replace hf := ite_t ((z_lt hr0 hr1).mp cc) hf
      clear cc
      refine lv_iload_n hx hb dJ3_checkIndex_8e157_16 rfl (lv_at hl 0 rfl) ?_
      obtain rfl := ou1 hf
      rw [hQ]
      exact W.iret hx hb hr (fun t ht hW => ⟨⟨_, (), rfl, rfl, by rw [ht]; exact hP, va_K.moved hW.alike hK, hD⟩, hS.F ht⟩) hS.2.2 dJ3_checkIndex_8e157_17
    ·
      replace hf := ite_f (fun h9 => cc ((z_lt hr0 hr1).mpr h9)) hf
      clear cc
      cases hf

set_option maxHeartbeats 8000000 in
set_option maxRecDepth 100000 in
theorem c_J3_checkIndex_8e157_N (l : Launch) (D : va_G) (G : Nat → ClassId) (sz : Nat) (adT adK adV : Nat → Nat) (x0 : Int) (x1 : Int) (r : Int) (hf : f_J3_checkIndex_8e157 x0 x1 = some r) : Met l yJ3_checkIndex_8e157 wsJ3_checkIndex_8e157 rm_J3_checkIndex_8e157 (pcGE D G adT adK adV [.int (Int32.ofInt x0), .int (Int32.ofInt x1), .null] sz []) (qcI D G (Int32.ofInt r) [] (va_A [] sz)) 0 0 (va_A [] sz) := by
  refine Met.ofW (cc := cJ3_checkIndex_8e157) (maxL := 3) (ret := (some .int)) (by decide) rfl ?_
  intro p e s m args below meth c s₁ B hml hv
  obtain ⟨rfl, hsz, hP, hK, hD0, hE⟩ := hv
  have hx := B.exec
  have hb := B.bytes
  have hr := B.returns
  have hts := atoms_spec (ws := wsJ3_checkIndex_8e157) B.pre
  have hown : s.vm.findClass RJ3 = some m.cls := findClass_of_methodNamed B.named
  have hlocks := B.notSynchronized
  subst hsz
  have hD := hD0.self (sz := s.heap.size)
  generalize hAe : va_A [] s.heap.size = A at hD hE ⊢
  have hA : ∀ q : Nat, s.heap.size ≤ q → A q := fun q h => by rw [← hAe]; exact Or.inr h
  clear hAe hD0
  have hS : va_S A s.heap s.heap [] := va_S.rf
  have hl := lv_entry ([.int (Int32.ofInt x0), .int (Int32.ofInt x1), .null]) (n := 3) (Nat.le_of_ble_eq_true rfl)
  rw [lg_entry_eq]
  generalize (lg_sl ([.int (Int32.ofInt x0), .int (Int32.ofInt x1), .null]) ++ List.replicate (3 - (lg_sl ([.int (Int32.ofInt x0), .int (Int32.ofInt x1), .null])).length) Slot.unset).toArray = ls at hl ⊢
  have hl : lv_has ls 3 [(0, .int (Int32.ofInt x0)), (1, .int (Int32.ofInt x1)), (2, .null)] := hl
  refine W_nameQ (fun Q hQ => ?_)
  obtain ⟨H, hH⟩ : ∃ H, H = s.heap := ⟨_, rfl⟩
  replace hS : va_S A s.heap H [] := by rw [hH]; exact hS
  replace hP : va_P D vwCl [] H := by rw [hH]; exact hP
  rw [← hH]
  clear hH
  unfold f_J3_checkIndex_8e157 at hf
  refine lv_iload_n hx hb dJ3_checkIndex_8e157_0 rfl (lv_at hl 0 rfl) ?_
  have hr0 := ck_c hf
  replace hf := ck_r hf
  refine lv_if_lt (tgt := 9) hx hb dJ3_checkIndex_8e157_1 (by decide) (fun cc => ?_) (fun cc => ?_)
  ·
    replace hf := ite_t ((z_lt0 hr0).mp cc) hf
    clear cc
    cases hf
  ·
    replace hf := ite_f (fun h9 => cc ((z_lt0 hr0).mpr h9)) hf
    clear cc
    refine lv_iload_n hx hb dJ3_checkIndex_8e157_4 rfl (lv_at hl 0 rfl) ?_
    refine lv_iload_n hx hb dJ3_checkIndex_8e157_5 rfl (lv_at hl 1 rfl) ?_
    have hr1 := ck_c hf
    replace hf := ck_r hf
    refine lv_icmp_lt (tgt := 16) hx hb dJ3_checkIndex_8e157_6 (by decide) (fun cc => ?_) (fun cc => ?_)
    ·
      replace hf := ite_t ((z_lt hr0 hr1).mp cc) hf
      clear cc
      refine lv_iload_n hx hb dJ3_checkIndex_8e157_16 rfl (lv_at hl 0 rfl) ?_
      obtain rfl := ou1 hf
      rw [hQ]
      exact W.iret hx hb hr (fun t ht hW => ⟨⟨_, (), rfl, rfl, by rw [ht]; exact hP, va_K.moved hW.alike hK, hD⟩, hS.F ht⟩) hS.2.2 dJ3_checkIndex_8e157_17
    ·
      replace hf := ite_f (fun h9 => cc ((z_lt hr0 hr1).mpr h9)) hf
      clear cc
      cases hf

noncomputable def f_J0_checkIndex_df160 (x0 : Int) (x1 : Int) : Option (Unit) := (bd1 (f_J3_checkIndex_8e157 x0 x1) (fun (z1 : Int) => (some ())))
abbrev rm_J0_checkIndex_df160 : Room := { frames := 1, cells := 0, slots := 0, locals := 22 }
theorem mwJ0_checkIndex_df160_0 : Cond.fieldLink RJ0 1053 "jdk/internal/util/Preconditions" "SIOOBE_FORMATTER" "Ljava/util/function/BiFunction;" ∈ wsJ0_checkIndex_df160 := by first | exact List.mem_of_getElem? (i := 1) rfl | decide +kernel
set_option maxHeartbeats 8000000 in
set_option maxRecDepth 100000 in
theorem c_J0_checkIndex_df160 (l : Launch) (D : va_G) (G : Nat → ClassId) (sz : Nat) (adT adK adV : Nat → Nat) (x0 : Int) (x1 : Int)  (hf : f_J0_checkIndex_df160 x0 x1 = some ()) : Met l yJ0_checkIndex_df160 wsJ0_checkIndex_df160 rm_J0_checkIndex_df160 (pcGE D G adT adK adV [.int (Int32.ofInt x0), .int (Int32.ofInt x1)] sz []) (qcV D G [] (va_A [] sz)) 0 0 (va_A [] sz) := by
  refine Met.ofW (cc := cJ0_checkIndex_df160) (maxL := 2) (ret := none) (by decide) rfl ?_
  intro p e s m args below meth c s₁ B hml hv
  obtain ⟨rfl, hsz, hP, hK, hD0, hE⟩ := hv
  have hx := B.exec
  have hb := B.bytes
  have hr := B.returns
  have hts := atoms_spec (ws := wsJ0_checkIndex_df160) B.pre
  have hown : s.vm.findClass RJ0 = some m.cls := findClass_of_methodNamed B.named
  have hlocks := B.notSynchronized
  subst hsz
  have hD := hD0.self (sz := s.heap.size)
  generalize hAe : va_A [] s.heap.size = A at hD hE ⊢
  have hA : ∀ q : Nat, s.heap.size ≤ q → A q := fun q h => by rw [← hAe]; exact Or.inr h
  clear hAe hD0
  have hS : va_S A s.heap s.heap [] := va_S.rf
  have hl := lv_entry ([.int (Int32.ofInt x0), .int (Int32.ofInt x1)]) (n := 2) (Nat.le_of_ble_eq_true rfl)
  rw [lg_entry_eq]
  generalize (lg_sl ([.int (Int32.ofInt x0), .int (Int32.ofInt x1)]) ++ List.replicate (2 - (lg_sl ([.int (Int32.ofInt x0), .int (Int32.ofInt x1)])).length) Slot.unset).toArray = ls at hl ⊢
  have hl : lv_has ls 2 [(0, .int (Int32.ofInt x0)), (1, .int (Int32.ofInt x1))] := hl
  refine W_nameQ (fun Q hQ => ?_)
  obtain ⟨H, hH⟩ : ∃ H, H = s.heap := ⟨_, rfl⟩
  replace hS : va_S A s.heap H [] := by rw [hH]; exact hS
  replace hP : va_P D vwCl [] H := by rw [hH]; exact hP
  rw [← hH]
  clear hH
  unfold f_J0_checkIndex_df160 at hf
  refine lv_iload_n hx hb dJ0_checkIndex_df160_0 rfl (lv_at hl 0 rfl) ?_
  refine lv_iload_n hx hb dJ0_checkIndex_df160_1 rfl (lv_at hl 1 rfl) ?_
  rcases hE.2.2.1 with hvq | ⟨tq, hvq⟩
  ·
    refine va_gets (C := "jdk/internal/util/Preconditions") (n := "SIOOBE_FORMATTER") (d := "Ljava/util/function/BiFunction;") (v := .null) hx hb hvq hS hown (hts _ mwJ0_checkIndex_df160_0) (fun _ h9 => h9) dJ0_checkIndex_df160_2 ?_
    have hq := bd1_s hf
    clear hf
    obtain ⟨z1, hcall, hf⟩ := hq
    refine gnI (va_runS (As := [.int (Int32.ofInt x0), .int (Int32.ofInt x1), .null]) (rest := []) ⟨hx, hb, hml, hown, hts⟩ (c_J3_checkIndex_8e157_N (l := l) (D := D) (G := G) (sz := H.size) (adT := adT) (adK := adK) (adV := adV) (x0 := x0) (x1 := x1) (r := z1) (hf := hcall)) (va_cwS 3 hts gJ0_checkIndex_df160_J3_checkIndex_8e157 rfl rfl rfl (by decide +kernel) ⟨Nat.le_of_ble_eq_true rfl, Nat.le_of_ble_eq_true rfl⟩) (preGE_S (hP.sub [] rfl) (hD.sub [] rfl rfl) hK hE hS hA) rfl rfl hl.1 rfl (lv_room (Nat.le_of_ble_eq_true rfl)) dJ0_checkIndex_df160_5 ⟨Nat.le_of_ble_eq_true rfl, Nat.le_of_ble_eq_true rfl⟩) hP hD hS hA [] rfl (fun H locs hP hD hS => ?_)
    clear hcall
    refine lv_pop hx hb dJ0_checkIndex_df160_8 rfl ?_
    rw [hQ]
    exact W.vret hx hb hr (fun t ht hW => ⟨⟨(), rfl, trivial, by rw [ht]; exact hP, va_K.moved hW.alike hK, hD⟩, hS.F ht⟩) hS.2.2 dJ0_checkIndex_df160_9
  ·
    refine va_gets (C := "jdk/internal/util/Preconditions") (n := "SIOOBE_FORMATTER") (d := "Ljava/util/function/BiFunction;") (v := .ref tq) hx hb hvq hS hown (hts _ mwJ0_checkIndex_df160_0) (fun _ h9 => h9) dJ0_checkIndex_df160_2 ?_
    have hq := bd1_s hf
    clear hf
    obtain ⟨z2, hcall, hf⟩ := hq
    refine gnI (va_runS (As := [.int (Int32.ofInt x0), .int (Int32.ofInt x1), .ref tq]) (rest := []) ⟨hx, hb, hml, hown, hts⟩ (c_J3_checkIndex_8e157 (l := l) (D := D) (G := G) (sz := H.size) (adT := adT) (adK := adK) (adV := adV) (x0 := x0) (x1 := x1) (x2 := tq) (r := z2) (hf := hcall)) (va_cwS 3 hts gJ0_checkIndex_df160_J3_checkIndex_8e157 rfl rfl rfl (by decide +kernel) ⟨Nat.le_of_ble_eq_true rfl, Nat.le_of_ble_eq_true rfl⟩) (preGE_S (hP.sub [] rfl) (hD.sub [] rfl rfl) hK hE hS hA) rfl rfl hl.1 rfl (lv_room (Nat.le_of_ble_eq_true rfl)) dJ0_checkIndex_df160_5 ⟨Nat.le_of_ble_eq_true rfl, Nat.le_of_ble_eq_true rfl⟩) hP hD hS hA [] rfl (fun H locs hP hD hS => ?_)
    clear hcall
    refine lv_pop hx hb dJ0_checkIndex_df160_8 rfl ?_
    rw [hQ]
    exact W.vret hx hb hr (fun t ht hW => ⟨⟨(), rfl, trivial, by rw [ht]; exact hP, va_K.moved hW.alike hK, hD⟩, hS.F ht⟩) hS.2.2 dJ0_checkIndex_df160_9

noncomputable def f_J1_charAt_3b067 (x0 : Int) (x1 : Int) : Option (Int) := (ck (z_ix x0 11) (bd0 (f_J0_checkIndex_df160 x1 (z_sl x0)) ((ck (z_ix x1 (z_Sl.getD (x0).toNat 0)) (ck (z_cC (z_i2c (z_and (z_sb x0 x1) (255 : Int)))) (some (z_i2c (z_and (z_sb x0 x1) (255 : Int)))))))))
abbrev rm_J1_charAt_3b067 : Room := { frames := 2, cells := 0, slots := 0, locals := 43 }
set_option maxHeartbeats 8000000 in
set_option maxRecDepth 100000 in
theorem c_J1_charAt_3b067 (l : Launch) (D : va_G) (G : Nat → ClassId) (sz : Nat) (adT adK adV : Nat → Nat) (x0 : Int) (x1 : Int) (r : Int) (hf : f_J1_charAt_3b067 x0 x1 = some r) : Met l yJ1_charAt_3b067 wsJ1_charAt_3b067 rm_J1_charAt_3b067 (pcGE D G adT adK adV [.ref (adV (x0).toNat), .int (Int32.ofInt x1)] sz []) (qcI D G (Int32.ofInt r) [] (va_A [] sz)) 0 0 (va_A [] sz) := by
  refine Met.ofW (cc := cJ1_charAt_3b067) (maxL := 2) (ret := (some .char)) (by decide) rfl ?_
  intro p e s m args below meth c s₁ B hml hv
  obtain ⟨rfl, hsz, hP, hK, hD0, hE⟩ := hv
  have hx := B.exec
  have hb := B.bytes
  have hr := B.returns
  have hts := atoms_spec (ws := wsJ1_charAt_3b067) B.pre
  have hown : s.vm.findClass RJ1 = some m.cls := findClass_of_methodNamed B.named
  have hlocks := B.notSynchronized
  subst hsz
  have hD := hD0.self (sz := s.heap.size)
  generalize hAe : va_A [] s.heap.size = A at hD hE ⊢
  have hA : ∀ q : Nat, s.heap.size ≤ q → A q := fun q h => by rw [← hAe]; exact Or.inr h
  clear hAe hD0
  have hS : va_S A s.heap s.heap [] := va_S.rf
  have hl := lv_entry ([.ref (adV (x0).toNat), .int (Int32.ofInt x1)]) (n := 2) (Nat.le_of_ble_eq_true rfl)
  rw [lg_entry_eq]
  generalize (lg_sl ([.ref (adV (x0).toNat), .int (Int32.ofInt x1)]) ++ List.replicate (2 - (lg_sl ([.ref (adV (x0).toNat), .int (Int32.ofInt x1)])).length) Slot.unset).toArray = ls at hl ⊢
  have hl : lv_has ls 2 [(0, .ref (adV (x0).toNat)), (1, .int (Int32.ofInt x1))] := hl
  refine W_nameQ (fun Q hQ => ?_)
  obtain ⟨H, hH⟩ : ∃ H, H = s.heap := ⟨_, rfl⟩
  replace hS : va_S A s.heap H [] := by rw [hH]; exact hS
  replace hP : va_P D vwCl [] H := by rw [hH]; exact hP
  rw [← hH]
  clear hH
  unfold f_J1_charAt_3b067 at hf
  refine lv_iload_n hx hb dJ1_charAt_3b067_0 rfl (lv_at hl 1 rfl) ?_
  refine lv_aload_n hx hb dJ1_charAt_3b067_1 rfl (lv_at hl 0 rfl) ?_
  have hr0 := ck_c hf
  replace hf := ck_r hf
  refine va_tlen (v := Int32.ofInt (z_sl x0)) hx hb (hE.2.2.2.1.1 _ (z_ix_n hr0)).2.2.2 hS (z_len _) dJ1_charAt_3b067_2 ?_
  have hq := bd0_s hf
  clear hf
  obtain ⟨hcall, hf⟩ := hq
  refine gnV (va_runS (As := [.int (Int32.ofInt x1), .int (Int32.ofInt (z_sl x0))]) (rest := []) ⟨hx, hb, hml, hown, hts⟩ (c_J0_checkIndex_df160 (l := l) (D := D) (G := G) (sz := H.size) (adT := adT) (adK := adK) (adV := adV) (x0 := x1) (x1 := (z_sl x0)) (hf := hcall)) (va_cwS 2 hts gJ1_charAt_3b067_J0_checkIndex_df160 rfl rfl rfl (by decide +kernel) ⟨Nat.le_of_ble_eq_true rfl, Nat.le_of_ble_eq_true rfl⟩) (preGE_S (hP.sub [] rfl) (hD.sub [] rfl rfl) hK hE hS hA) rfl rfl hl.1 rfl (lv_room (Nat.le_of_ble_eq_true rfl)) dJ1_charAt_3b067_3 ⟨Nat.le_of_ble_eq_true rfl, Nat.le_of_ble_eq_true rfl⟩) hP hD hS hA [] rfl (fun H locs hP hD hS => ?_)
  clear hcall
  refine lv_aload_n hx hb dJ1_charAt_3b067_6 rfl (lv_at hl 0 rfl) ?_
  refine lv_iload_n hx hb dJ1_charAt_3b067_7 rfl (lv_at hl 1 rfl) ?_
  have hc := ck_c hf
  replace hf := ck_r hf
  refine va_tb (v := .int (Int32.ofInt (z_sb x0 x1))) hx hb (hE.2.2.2.1.1 _ (z_ix_n hr0)).2.2.2 hS (z_ix_in hc) (z_sb_e hc) dJ1_charAt_3b067_8 ?_
  clear hc
  refine lv_sipush (v := Int32.ofInt (255 : Int)) hx hb dJ1_charAt_3b067_9 (by decide) ?_
  refine lv_iand hx hb dJ1_charAt_3b067_12 (z_ci (z_and_e (z_sb x0 x1) (255 : Int)) ?_)
  refine lv_i2c (v := Int32.ofInt (z_i2c (z_and (z_sb x0 x1) (255 : Int)))) hx hb dJ1_charAt_3b067_13 (z_i2c_e (z_and (z_sb x0 x1) (255 : Int))).symm ?_
  have hz := ck_c hf
  replace hf := ck_r hf
  obtain rfl := ou1 hf
  rw [hQ]
  exact W.zret hx hb hr (z_cCn hz) (fun t ht hW => ⟨⟨_, (), rfl, rfl, by rw [ht]; exact hP, va_K.moved hW.alike hK, hD⟩, hS.F ht⟩) hS.2.2 dJ1_charAt_3b067_14

noncomputable def f_J0_charAt_5068e (x0 : Int) (x1 : Int) : Option (Int) := (bd1 (f_J0_isLatin1_aae02 x0) (fun (z1 : Int) => (ck (z_ix x0 11) (ck (z_r32 z1) (if z1 = (0 : Int) then none else (bd1 (f_J1_charAt_3b067 x0 x1) (fun (z4 : Int) => (ck (z_cC z4) (some z4)))))))))
abbrev rm_J0_charAt_5068e : Room := { frames := 3, cells := 0, slots := 0, locals := 64 }
theorem hdV_yJ0_isLatin1_aae02_RJ0 : yJ0_isLatin1_aae02.cls = RJ0 ∧ yJ0_isLatin1_aae02.cls ≠ "java/lang/invoke/MethodHandle" ∧ yJ0_isLatin1_aae02.cls ≠ "java/lang/invoke/VarHandle" ∧ (parseMethodDescriptor yJ0_isLatin1_aae02.desc).map (fun d => d.parameters.length) = some 0 := by decide +kernel
theorem mwJ0_charAt_5068e_1 : Cond.fieldLink RJ0 9 "java/lang/String" "value" "[B" ∈ wsJ0_charAt_5068e := by first | exact List.mem_of_getElem? (i := 1) rfl | decide +kernel
set_option maxHeartbeats 8000000 in
set_option maxRecDepth 100000 in
theorem c_J0_charAt_5068e (l : Launch) (D : va_G) (G : Nat → ClassId) (sz : Nat) (adT adK adV : Nat → Nat) (x0 : Int) (x1 : Int) (r : Int) (hf : f_J0_charAt_5068e x0 x1 = some r) : Met l yJ0_charAt_5068e wsJ0_charAt_5068e rm_J0_charAt_5068e (pcGE D G adT adK adV [.ref (adK (x0).toNat), .int (Int32.ofInt x1)] sz []) (qcI D G (Int32.ofInt r) [] (va_A [] sz)) 0 0 (va_A [] sz) := by
  refine Met.ofW (cc := cJ0_charAt_5068e) (maxL := 2) (ret := (some .char)) (by decide) rfl ?_
  intro p e s m args below meth c s₁ B hml hv
  obtain ⟨rfl, hsz, hP, hK, hD0, hE⟩ := hv
  have hx := B.exec
  have hb := B.bytes
  have hr := B.returns
  have hts := atoms_spec (ws := wsJ0_charAt_5068e) B.pre
  have hown : s.vm.findClass RJ0 = some m.cls := findClass_of_methodNamed B.named
  have hlocks := B.notSynchronized
  subst hsz
  have hD := hD0.self (sz := s.heap.size)
  generalize hAe : va_A [] s.heap.size = A at hD hE ⊢
  have hA : ∀ q : Nat, s.heap.size ≤ q → A q := fun q h => by rw [← hAe]; exact Or.inr h
  clear hAe hD0
  have hS : va_S A s.heap s.heap [] := va_S.rf
  have hl := lv_entry ([.ref (adK (x0).toNat), .int (Int32.ofInt x1)]) (n := 2) (Nat.le_of_ble_eq_true rfl)
  rw [lg_entry_eq]
  generalize (lg_sl ([.ref (adK (x0).toNat), .int (Int32.ofInt x1)]) ++ List.replicate (2 - (lg_sl ([.ref (adK (x0).toNat), .int (Int32.ofInt x1)])).length) Slot.unset).toArray = ls at hl ⊢
  have hl : lv_has ls 2 [(0, .ref (adK (x0).toNat)), (1, .int (Int32.ofInt x1))] := hl
  refine W_nameQ (fun Q hQ => ?_)
  obtain ⟨H, hH⟩ : ∃ H, H = s.heap := ⟨_, rfl⟩
  replace hS : va_S A s.heap H [] := by rw [hH]; exact hS
  replace hP : va_P D vwCl [] H := by rw [hH]; exact hP
  rw [← hH]
  clear hH
  unfold f_J0_charAt_5068e at hf
  refine lv_aload_n hx hb dJ0_charAt_5068e_0 rfl (lv_at hl 0 rfl) ?_
  have hq := bd1_s hf
  clear hf
  obtain ⟨z1, hcall, hf⟩ := hq
  have hr1 := ck_c hf
  replace hf := ck_r hf
  refine gnI (va_runV (As := []) (rest := []) ⟨hx, hb, hml, hown, hts⟩ (c_J0_isLatin1_aae02 (l := l) (D := D) (G := G) (sz := H.size) (adT := adT) (adK := adK) (adV := adV) (x0 := x0) (r := z1) (hf := hcall)) (cwV 0 hts gJ0_charAt_5068e_J0_isLatin1_aae02 rfl rfl rfl hdV_yJ0_isLatin1_aae02_RJ0 ⟨Nat.le_of_ble_eq_true rfl, Nat.le_of_ble_eq_true rfl⟩) (preGE_K (z_ix_n hr1) hK hE hS hA) rfl rfl hl.1 rfl (lv_room (Nat.le_of_ble_eq_true rfl)) dJ0_charAt_5068e_1 ⟨Nat.le_of_ble_eq_true rfl, Nat.le_of_ble_eq_true rfl⟩) hP hD hS hA [] rfl (fun H locs hP hD hS => ?_)
  clear hcall
  have hr2 := ck_c hf
  replace hf := ck_r hf
  refine lv_if_eq (tgt := 16) hx hb dJ0_charAt_5068e_4 (by decide) (fun cc => ?_) (fun cc => ?_)
  ·
    replace hf := ite_t ((z_eq0 hr2).mp cc) hf
    clear cc
    refine lv_aload_n hx hb dJ0_charAt_5068e_16 rfl (lv_at hl 0 rfl) ?_
    refine vk_getf hx hb (hE.2.2.2.1.1 _ (z_ix_n hr1)).2.2.1 hS hown (hts _ mwJ0_charAt_5068e_1) (fun _ h9 => h9) dJ0_charAt_5068e_17 ?_
    refine lv_iload_n hx hb dJ0_charAt_5068e_20 rfl (lv_at hl 1 rfl) ?_
    cases hf
  ·
    replace hf := ite_f (fun h9 => cc ((z_eq0 hr2).mpr h9)) hf
    clear cc
    refine lv_aload_n hx hb dJ0_charAt_5068e_7 rfl (lv_at hl 0 rfl) ?_
    refine vk_getf hx hb (hE.2.2.2.1.1 _ (z_ix_n hr1)).2.2.1 hS hown (hts _ mwJ0_charAt_5068e_1) (fun _ h9 => h9) dJ0_charAt_5068e_8 ?_
    refine lv_iload_n hx hb dJ0_charAt_5068e_11 rfl (lv_at hl 1 rfl) ?_
    have hq := bd1_s hf
    clear hf
    obtain ⟨z4, hcall, hf⟩ := hq
    refine gnI (va_runS (As := [.ref (adV (x0).toNat), .int (Int32.ofInt x1)]) (rest := []) ⟨hx, hb, hml, hown, hts⟩ (c_J1_charAt_3b067 (l := l) (D := D) (G := G) (sz := H.size) (adT := adT) (adK := adK) (adV := adV) (x0 := x0) (x1 := x1) (r := z4) (hf := hcall)) (va_cwS 2 hts gJ0_charAt_5068e_J1_charAt_3b067 rfl rfl rfl (by decide +kernel) ⟨Nat.le_of_ble_eq_true rfl, Nat.le_of_ble_eq_true rfl⟩) (preGE_S (hP.sub [] rfl) (hD.sub [] rfl rfl) hK hE hS hA) rfl rfl hl.1 rfl (lv_room (Nat.le_of_ble_eq_true rfl)) dJ0_charAt_5068e_12 ⟨Nat.le_of_ble_eq_true rfl, Nat.le_of_ble_eq_true rfl⟩) hP hD hS hA [] rfl (fun H locs hP hD hS => ?_)
    clear hcall
    have hz := ck_c hf
    replace hf := ck_r hf
    obtain rfl := ou1 hf
    rw [hQ]
    exact W.zret hx hb hr (z_cCn hz) (fun t ht hW => ⟨⟨_, (), rfl, rfl, by rw [ht]; exact hP, va_K.moved hW.alike hK, hD⟩, hS.F ht⟩) hS.2.2 dJ0_charAt_5068e_15

noncomputable def B_X9_isNamed_20 (x1 : Int) (i_p0_start : Int) (v_p0_bytes : (Int → Int)) (again20 : Int → Option (Int)) (z6 : Int) : Option (Int) := (bd1 (f_J0_length_8abf5 x1) (fun (z8 : Int) => (ck (z_r32 z6) (ck (z_r32 z8) (if z8 ≤ z6 then (some (1 : Int)) else (ck (z_ix (i_p0_start + z6) 320) (bd1 (f_J0_charAt_5068e x1 z6) (fun (z11 : Int) => (ck (z_r32 (v_p0_bytes (i_p0_start + z6))) (ck (z_r32 z11) (if (v_p0_bytes (i_p0_start + z6)) = z11 then (bnd (z6 + (1 : Int)) (fun (z14 : Int) => (again20 z14))) else (some (0 : Int)))))))))))))
noncomputable def f_X9_isNamed (i_p0_at : Int) (i_p0_start : Int) (v_p0_bytes : (Int → Int)) (x1 : Int) : Option (Int) := (bd1 (f_J0_length_8abf5 x1) (fun (z1 : Int) => (ck (z_ix x1 11) (ck (z_r32 (i_p0_at - i_p0_start)) (ck (z_r32 z1) (if (i_p0_at - i_p0_start) = z1 then (bnd (0 : Int) (fun (z5 : Int) => (lq1 (B_X9_isNamed_20 x1 i_p0_start v_p0_bytes) 1000 z5))) else (some (0 : Int))))))))
abbrev rm_X9_isNamed : Room := { frames := 4, cells := 0, slots := 0, locals := 85 }
theorem inX9_isNamed_X9 : ∀ w ∈ wsX90, w ∈ wsX9_isNamed := by first | exact fun w h => List.mem_cons_of_mem _ (List.mem_append_right _ h) | decide +kernel
theorem mwX9_isNamed_1 : Cond.fieldLink RX9 19 "LadleKings$Tape" "at" "I" ∈ wsX9_isNamed := by first | exact List.mem_of_getElem? (i := 1) rfl | decide +kernel
theorem mwX9_isNamed_2 : Cond.fieldLink RX9 25 "LadleKings$Tape" "start" "I" ∈ wsX9_isNamed := by first | exact List.mem_of_getElem? (i := 2) rfl | decide +kernel
theorem hdV_yJ0_length_8abf5_RJ0 : yJ0_length_8abf5.cls = RJ0 ∧ yJ0_length_8abf5.cls ≠ "java/lang/invoke/MethodHandle" ∧ yJ0_length_8abf5.cls ≠ "java/lang/invoke/VarHandle" ∧ (parseMethodDescriptor yJ0_length_8abf5.desc).map (fun d => d.parameters.length) = some 0 := by decide +kernel
theorem mwX9_isNamed_4 : Cond.fieldLink RX9 9 "LadleKings$Tape" "bytes" "[B" ∈ wsX9_isNamed := by first | exact List.mem_of_getElem? (i := 3) rfl | decide +kernel
theorem hdV_yJ0_charAt_5068e_RJ0 : yJ0_charAt_5068e.cls = RJ0 ∧ yJ0_charAt_5068e.cls ≠ "java/lang/invoke/MethodHandle" ∧ yJ0_charAt_5068e.cls ≠ "java/lang/invoke/VarHandle" ∧ (parseMethodDescriptor yJ0_charAt_5068e.desc).map (fun d => d.parameters.length) = some 1 := by decide +kernel
set_option maxHeartbeats 8000000 in
set_option maxRecDepth 100000 in
theorem c_X9_isNamed (l : Launch) (D : va_G) (G : Nat → ClassId) (sz : Nat) (adT adK adV : Nat → Nat) (a_p0 : Nat) (a_p0_bytes : Nat) (i_p0_length : Int) (i_p0_at : Int) (i_p0_token : Int) (i_p0_start : Int) (i_p0_value : Int) (v_p0_bytes : (Int → Int)) (x1 : Int) (r : Int) (hf : f_X9_isNamed i_p0_at i_p0_start v_p0_bytes x1 = some r) : Met l yX9_isNamed wsX9_isNamed rm_X9_isNamed (pcGE D G adT adK adV [.ref a_p0, .ref (adK (x1).toNat)] sz [(a_p0, .inr (9, [.ref a_p0_bytes, .int (Int32.ofInt i_p0_length), .int (Int32.ofInt i_p0_at), .int (Int32.ofInt i_p0_token), .int (Int32.ofInt i_p0_start), .int (Int32.ofInt i_p0_value)])), (a_p0_bytes, .inl (G 0, 320, .inl (zA v_p0_bytes)))]) (qcI D G (Int32.ofInt r) [(a_p0, .inr (9, [.ref a_p0_bytes, .int (Int32.ofInt i_p0_length), .int (Int32.ofInt i_p0_at), .int (Int32.ofInt i_p0_token), .int (Int32.ofInt i_p0_start), .int (Int32.ofInt i_p0_value)])), (a_p0_bytes, .inl (G 0, 320, .inl (zA v_p0_bytes)))] (va_A [(a_p0, .inr (9, [.ref a_p0_bytes, .int (Int32.ofInt i_p0_length), .int (Int32.ofInt i_p0_at), .int (Int32.ofInt i_p0_token), .int (Int32.ofInt i_p0_start), .int (Int32.ofInt i_p0_value)])), (a_p0_bytes, .inl (G 0, 320, .inl (zA v_p0_bytes)))] sz)) 0 0 (va_A [(a_p0, .inr (9, [.ref a_p0_bytes, .int (Int32.ofInt i_p0_length), .int (Int32.ofInt i_p0_at), .int (Int32.ofInt i_p0_token), .int (Int32.ofInt i_p0_start), .int (Int32.ofInt i_p0_value)])), (a_p0_bytes, .inl (G 0, 320, .inl (zA v_p0_bytes)))] sz) := by
  refine Met.ofW (cc := cX9_isNamed) (maxL := 3) (ret := (some .boolean)) (by decide) rfl ?_
  intro p e s m args below meth c s₁ B hml hv
  obtain ⟨rfl, hsz, hP, hK, hD0, hE⟩ := hv
  have hx := B.exec
  have hb := B.bytes
  have hr := B.returns
  have hts := atoms_spec (ws := wsX9_isNamed) B.pre
  have hown : s.vm.findClass RX9 = some m.cls := findClass_of_methodNamed B.named
  have hlocks := B.notSynchronized
  subst hsz
  have hD := hD0.self (sz := s.heap.size)
  generalize hAe : va_A [(a_p0, .inr (9, [.ref a_p0_bytes, .int (Int32.ofInt i_p0_length), .int (Int32.ofInt i_p0_at), .int (Int32.ofInt i_p0_token), .int (Int32.ofInt i_p0_start), .int (Int32.ofInt i_p0_value)])), (a_p0_bytes, .inl (G 0, 320, .inl (zA v_p0_bytes)))] s.heap.size = A at hD hE ⊢
  have hA : ∀ q : Nat, s.heap.size ≤ q → A q := fun q h => by rw [← hAe]; exact Or.inr h
  clear hAe hD0
  have hS : va_S A s.heap s.heap [] := va_S.rf
  have hl := lv_entry ([.ref a_p0, .ref (adK (x1).toNat)]) (n := 3) (Nat.le_of_ble_eq_true rfl)
  rw [lg_entry_eq]
  generalize (lg_sl ([.ref a_p0, .ref (adK (x1).toNat)]) ++ List.replicate (3 - (lg_sl ([.ref a_p0, .ref (adK (x1).toNat)])).length) Slot.unset).toArray = ls at hl ⊢
  have hl : lv_has ls 3 [(0, .ref a_p0), (1, .ref (adK (x1).toNat))] := hl
  refine W_nameQ (fun Q hQ => ?_)
  obtain ⟨H, hH⟩ : ∃ H, H = s.heap := ⟨_, rfl⟩
  replace hS : va_S A s.heap H [] := by rw [hH]; exact hS
  replace hP : va_P D vwCl [(a_p0, .inr (9, [.ref a_p0_bytes, .int (Int32.ofInt i_p0_length), .int (Int32.ofInt i_p0_at), .int (Int32.ofInt i_p0_token), .int (Int32.ofInt i_p0_start), .int (Int32.ofInt i_p0_value)])), (a_p0_bytes, .inl (G 0, 320, .inl (zA v_p0_bytes)))] H := by rw [hH]; exact hP
  rw [← hH]
  clear hH
  unfold f_X9_isNamed at hf
  refine lv_aload_n hx hb dX9_isNamed_0 rfl (lv_at hl 0 rfl) ?_
  refine va_get (D := D) (ci := 9) (v := .int (Int32.ofInt i_p0_at)) (C := RX9) (T := TX9) (N := 6) hx hb hts inX9_isNamed_X9 hown hK hP 0 rfl rfl 2 (by decide) (hts _ mwX9_isNamed_1) (fun _ h9 => h9) rfl dX9_isNamed_1 ?_
  refine lv_aload_n hx hb dX9_isNamed_4 rfl (lv_at hl 0 rfl) ?_
  refine va_get (D := D) (ci := 9) (v := .int (Int32.ofInt i_p0_start)) (C := RX9) (T := TX9) (N := 6) hx hb hts inX9_isNamed_X9 hown hK hP 0 rfl rfl 4 (by decide) (hts _ mwX9_isNamed_2) (fun _ h9 => h9) rfl dX9_isNamed_5 ?_
  refine lv_isub hx hb dX9_isNamed_8 (z_ci (Int32.ofInt_sub i_p0_at i_p0_start) ?_)
  refine lv_aload_n hx hb dX9_isNamed_9 rfl (lv_at hl 1 rfl) ?_
  have hq := bd1_s hf
  clear hf
  obtain ⟨z1, hcall, hf⟩ := hq
  have hr1 := ck_c hf
  replace hf := ck_r hf
  refine gnI (va_runV (As := []) (rest := [.int (Int32.ofInt (i_p0_at - i_p0_start))]) ⟨hx, hb, hml, hown, hts⟩ (c_J0_length_8abf5 (l := l) (D := D) (G := G) (sz := H.size) (adT := adT) (adK := adK) (adV := adV) (x0 := x1) (r := z1) (hf := hcall)) (cwV 0 hts gX9_isNamed_J0_length_8abf5 rfl rfl rfl hdV_yJ0_length_8abf5_RJ0 ⟨Nat.le_of_ble_eq_true rfl, Nat.le_of_ble_eq_true rfl⟩) (preGE_K (z_ix_n hr1) hK hE hS hA) rfl rfl hl.1 rfl (lv_room (Nat.le_of_ble_eq_true rfl)) dX9_isNamed_10 ⟨Nat.le_of_ble_eq_true rfl, Nat.le_of_ble_eq_true rfl⟩) hP hD hS hA [] rfl (fun H locs hP hD hS => ?_)
  clear hcall
  have hr2 := ck_c hf
  replace hf := ck_r hf
  have hr3 := ck_c hf
  replace hf := ck_r hf
  refine lv_icmp_eq (tgt := 18) hx hb dX9_isNamed_13 (by decide) (fun cc => ?_) (fun cc => ?_)
  ·
    replace hf := ite_t ((z_eq hr2 hr3).mp cc) hf
    clear cc
    refine lv_iconst (v := Int32.ofInt (0 : Int)) hx hb dX9_isNamed_18 (by decide) ?_
    refine z_topi (fun z5 ez => ?_)
    replace hf := bnd_s hf ez
    clear ez
    refine lv_istore_n (lv' := [(2, .int (Int32.ofInt z5)), (0, .ref a_p0), (1, .ref (adK (x1).toNat))]) hx hb dX9_isNamed_19 rfl hl (by decide) rfl (fun ls hl => ?_)
    have hq := lq1_i hf
    clear hf
    obtain ⟨B7, eB7, NB7, hf⟩ := hq
    have hB7 : ∀ (n : Nat) (z6 : Int) (ls : Array Slot) (H : Heap) (locs : List Loc), lv_has ls 3 [(2, .int (Int32.ofInt z6)), (0, .ref a_p0), (1, .ref (adK (x1).toNat))] → va_P D vwCl [(a_p0, .inr (9, [.ref a_p0_bytes, .int (Int32.ofInt i_p0_length), .int (Int32.ofInt i_p0_at), .int (Int32.ofInt i_p0_token), .int (Int32.ofInt i_p0_start), .int (Int32.ofInt i_p0_value)])), (a_p0_bytes, .inl (G 0, 320, .inl (zA v_p0_bytes)))] H → va_D A [(a_p0, .inr (9, [.ref a_p0_bytes, .int (Int32.ofInt i_p0_length), .int (Int32.ofInt i_p0_at), .int (Int32.ofInt i_p0_token), .int (Int32.ofInt i_p0_start), .int (Int32.ofInt i_p0_value)])), (a_p0_bytes, .inl (G 0, 320, .inl (zA v_p0_bytes)))] → va_S A s.heap H locs → lq1 B7 n z6 = some r → W p l e rm_X9_isNamed s m ([.ref a_p0, .ref (adK (x1).toNat)] : List Value).toArray below meth c H locs 0 0 Q (F0 m 20 ls []) := by
      clear hf hl hP hD hS
      intro n
      induction n with
      | zero =>
        intro z6 ls H locs hl hP hD hS hf
        exact (lq1_0 hf).elim
      | succ n ih20 =>
        intro z6 ls H locs hl hP hD hS hf
        replace hf := lq1_s eB7 hf
        unfold B_X9_isNamed_20 at hf
        refine lv_iload_n hx hb dX9_isNamed_20 rfl (lv_at hl 0 rfl) ?_
        refine lv_aload_n hx hb dX9_isNamed_21 rfl (lv_at hl 2 rfl) ?_
        have hq := bd1_s hf
        clear hf
        obtain ⟨z8, hcall, hf⟩ := hq
        refine gnI (va_runV (As := []) (rest := [.int (Int32.ofInt z6)]) ⟨hx, hb, hml, hown, hts⟩ (c_J0_length_8abf5 (l := l) (D := D) (G := G) (sz := H.size) (adT := adT) (adK := adK) (adV := adV) (x0 := x1) (r := z8) (hf := hcall)) (cwV 0 hts gX9_isNamed_J0_length_8abf5 rfl rfl rfl hdV_yJ0_length_8abf5_RJ0 ⟨Nat.le_of_ble_eq_true rfl, Nat.le_of_ble_eq_true rfl⟩) (preGE_K (z_ix_n hr1) hK hE hS hA) rfl rfl hl.1 rfl (lv_room (Nat.le_of_ble_eq_true rfl)) dX9_isNamed_22 ⟨Nat.le_of_ble_eq_true rfl, Nat.le_of_ble_eq_true rfl⟩) hP hD hS hA [] rfl (fun H locs hP hD hS => ?_)
        clear hcall
        have hr8 := ck_c hf
        replace hf := ck_r hf
        have hr9 := ck_c hf
        replace hf := ck_r hf
        refine lv_icmp_ge (tgt := 55) hx hb dX9_isNamed_25 (by decide) (fun cc => ?_) (fun cc => ?_)
        ·
          replace hf := ite_t ((z_le hr9 hr8).mp cc) hf
          clear cc
          refine lv_iconst (v := Int32.ofInt (1 : Int)) hx hb dX9_isNamed_55 (by decide) ?_
          obtain rfl := ou1 hf
          rw [hQ]
          exact W.zret hx hb hr rfl (fun t ht hW => ⟨⟨_, (), rfl, rfl, by rw [ht]; exact hP, va_K.moved hW.alike hK, hD⟩, hS.F ht⟩) hS.2.2 dX9_isNamed_56
        ·
          replace hf := ite_f (fun h9 => cc ((z_le hr9 hr8).mpr h9)) hf
          clear cc
          refine lv_aload_n hx hb dX9_isNamed_28 rfl (lv_at hl 1 rfl) ?_
          refine va_get (D := D) (ci := 9) (v := .ref a_p0_bytes) (C := RX9) (T := TX9) (N := 6) hx hb hts inX9_isNamed_X9 hown hK hP 0 rfl rfl 0 (by decide) (hts _ mwX9_isNamed_4) (fun _ h9 => h9) rfl dX9_isNamed_29 ?_
          refine lv_aload_n hx hb dX9_isNamed_32 rfl (lv_at hl 1 rfl) ?_
          refine va_get (D := D) (ci := 9) (v := .int (Int32.ofInt i_p0_start)) (C := RX9) (T := TX9) (N := 6) hx hb hts inX9_isNamed_X9 hown hK hP 0 rfl rfl 4 (by decide) (hts _ mwX9_isNamed_2) (fun _ h9 => h9) rfl dX9_isNamed_33 ?_
          refine lv_iload_n hx hb dX9_isNamed_36 rfl (lv_at hl 0 rfl) ?_
          refine lv_iadd hx hb dX9_isNamed_37 (z_ci (Int32.ofInt_add i_p0_start z6) ?_)
          have hc := ck_c hf
          replace hf := ck_r hf
          refine va_bald hx hb hK hP 1 0 rfl rfl (z_ix_in hc) dX9_isNamed_38 (z_ci (z_ald v_p0_bytes hc) ?_)
          clear hc
          refine lv_aload_n hx hb dX9_isNamed_39 rfl (lv_at hl 2 rfl) ?_
          refine lv_iload_n hx hb dX9_isNamed_40 rfl (lv_at hl 0 rfl) ?_
          have hq := bd1_s hf
          clear hf
          obtain ⟨z11, hcall, hf⟩ := hq
          refine gnI (va_runV (As := [.int (Int32.ofInt z6)]) (rest := [.int (Int32.ofInt (v_p0_bytes (i_p0_start + z6)))]) ⟨hx, hb, hml, hown, hts⟩ (c_J0_charAt_5068e (l := l) (D := D) (G := G) (sz := H.size) (adT := adT) (adK := adK) (adV := adV) (x0 := x1) (x1 := z6) (r := z11) (hf := hcall)) (cwV 1 hts gX9_isNamed_J0_charAt_5068e rfl rfl rfl hdV_yJ0_charAt_5068e_RJ0 ⟨Nat.le_of_ble_eq_true rfl, Nat.le_of_ble_eq_true rfl⟩) (preGE_K (z_ix_n hr1) hK hE hS hA) rfl rfl hl.1 rfl (lv_room (Nat.le_of_ble_eq_true rfl)) dX9_isNamed_41 ⟨Nat.le_of_ble_eq_true rfl, Nat.le_of_ble_eq_true rfl⟩) hP hD hS hA [] rfl (fun H locs hP hD hS => ?_)
          clear hcall
          have hr11 := ck_c hf
          replace hf := ck_r hf
          have hr12 := ck_c hf
          replace hf := ck_r hf
          refine lv_icmp_eq (tgt := 49) hx hb dX9_isNamed_44 (by decide) (fun cc => ?_) (fun cc => ?_)
          ·
            replace hf := ite_t ((z_eq hr11 hr12).mp cc) hf
            clear cc
            obtain ⟨z14, ez⟩ : ∃ y : Int, y = (z6 + (1 : Int)) := ⟨_, rfl⟩
            replace hf := bnd_s hf ez
            refine lv_iinc (v := Int32.ofInt z14) (lv' := [(2, .int (Int32.ofInt z14)), (0, .ref a_p0), (1, .ref (adK (x1).toNat))]) hx hb dX9_isNamed_49 hl (k := 0) rfl (by rw [ez]; exact (Int32.ofInt_add _ _).symm) (by decide) rfl (fun ls hl => ?_)
            clear ez
            refine lv_goto (tgt := 20) hx hb dX9_isNamed_52 (by decide) ?_
            exact ih20 _ _ _ _ (lv_sub hl [0, 1, 2] rfl) hP hD hS hf
          ·
            replace hf := ite_f (fun h9 => cc ((z_eq hr11 hr12).mpr h9)) hf
            clear cc
            refine lv_iconst (v := Int32.ofInt (0 : Int)) hx hb dX9_isNamed_47 (by decide) ?_
            obtain rfl := ou1 hf
            rw [hQ]
            exact W.zret hx hb hr rfl (fun t ht hW => ⟨⟨_, (), rfl, rfl, by rw [ht]; exact hP, va_K.moved hW.alike hK, hD⟩, hS.F ht⟩) hS.2.2 dX9_isNamed_48
    exact hB7 _ _ _ _ _ (lv_sub hl [0, 1, 2] rfl) hP hD hS hf
  ·
    replace hf := ite_f (fun h9 => cc ((z_eq hr2 hr3).mpr h9)) hf
    clear cc
    refine lv_iconst (v := Int32.ofInt (0 : Int)) hx hb dX9_isNamed_16 (by decide) ?_
    obtain rfl := ou1 hf
    rw [hQ]
    exact W.zret hx hb hr rfl (fun t ht hW => ⟨⟨_, (), rfl, rfl, by rw [ht]; exact hP, va_K.moved hW.alike hK, hD⟩, hS.F ht⟩) hS.2.2 dX9_isNamed_17
